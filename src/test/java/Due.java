import java.nio.charset.StandardCharsets;

/** What the tests of the project share: comparing answers, feeding texts, telling streets and rules. */
final class Due {
    private static int wrong = 0;
    private static int asked = 0;

    private Due() {
    }

    static void is(String call, long got, long want) {
        asked++;
        if (got != want) {
            wrong++;
            if (wrong <= 50) {
                System.out.println(call + " answered " + got + ", due is " + want);
            }
        }
    }

    /** To be called last: tells how it went and ends with 1 if an answer was wrong. */
    static void close() {
        System.out.println(wrong == 0 ? asked + " answers are as due" : wrong + " of " + asked + " answers are not as due");
        if (wrong != 0) {
            System.exit(1);
        }
    }

    static int wrong() {
        return wrong;
    }

    /** Feeds a text by eights; the answer of the last feed (0 for an empty text). */
    static int text(LastPlace x, String text) {
        byte[] bytes = text.getBytes(StandardCharsets.ISO_8859_1);
        int answer = 0;
        for (int from = 0; from < bytes.length; from += 8) {
            int n = Math.min(8, bytes.length - from);
            answer = x.feed(n, packed(bytes, from, n));
        }
        return answer;
    }

    static long packed(byte[] bytes, int from, int n) {
        long packed = 0;
        for (int k = 0; k < n; k++) {
            packed = packed << 8 | bytes[from + k] & 255;
        }
        return packed;
    }

    static int street(LastPlace x, int s, String text) {
        text(x, text);
        return x.street(s);
    }

    static int rule(LastPlace x, String text) {
        text(x, text);
        return x.rule();
    }

    /** A new object with STREET 0 told. */
    static LastPlace with(String street) {
        LastPlace x = new LastPlace();
        is("street(0) of '" + street + "' above 0", street(x, 0, street) > 0 ? 1 : 0, 1);
        return x;
    }

    static void streetFault(String text, int number, int where) {
        LastPlace x = new LastPlace();
        is("street(0) of '" + text + "'", street(x, 0, text), -10 - number);
        is("fault() of '" + text + "'", x.fault(), where);
        is("told(0, 0) behind '" + text + "'", x.told(0, 0), LastPlace.UNKNOWN);
        is("count(4) behind '" + text + "'", x.count(4), 0);
    }

    static void ruleFault(String text, int number, int where) {
        LastPlace x = new LastPlace();
        is("rule() of '" + text + "'", rule(x, text), -10 - number);
        is("fault() of '" + text + "'", x.fault(), where);
        is("count(0) behind '" + text + "'", x.count(0), 0);
        is("count(4) behind '" + text + "'", x.count(4), 0);
    }
}
