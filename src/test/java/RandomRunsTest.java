import java.nio.charset.StandardCharsets;
import java.util.Random;

/** Runs of up to 512 calls by a fixed seed, ordinary and wrong ones, against PlainModel: all promises at once. */
public final class RandomRunsTest {
    private static final int RUNS = 400, CALLS = 512;

    private final Random random;
    private final int run;
    private final LastPlace x = new LastPlace();
    private final PlainModel y = new PlainModel();
    private int calls = 0;
    private final int mostDoors;

    private RandomRunsTest(int run) {
        this.run = run;
        this.random = new Random(run);
        this.mostDoors = run % 4 == 0 ? 24 : 2 + random.nextInt(9);
    }

    public static void main(String[] args) {
        int first = args.length > 1 ? Integer.parseInt(args[0]) : 1;
        int last = args.length > 1 ? Integer.parseInt(args[1]) : RUNS;
        for (int run = first; run <= last && Due.wrong() == 0; run++) {
            new RandomRunsTest(run).go();
        }
        Due.close();
    }

    private void go() {
        tellStreet(0);
        tellStreet(1);
        tellRule();
        while (calls < CALLS && Due.wrong() == 0) {
            step();
        }
    }

    private void same(String call, int got, int want) {
        calls++;
        Due.is("run " + run + ", call " + calls + ": " + call, got, want);
    }

    /** Mostly within the bounds, sometimes one off them or far away. */
    private int in(int least, int most) {
        switch (random.nextInt(40)) {
            case 0:
                return least - 1;
            case 1:
                return most + 1;
            case 2:
                return random.nextInt();
            case 3:
                return random.nextBoolean() ? Integer.MIN_VALUE : Integer.MAX_VALUE;
            default:
                return least + random.nextInt(most - least + 1);
        }
    }

    private int some(int... values) {
        return values[random.nextInt(values.length)];
    }

    private String blank() {
        return random.nextInt(4) == 0 ? random.nextInt(4) == 0 ? "  " : "" : " ";
    }

    private String number(int least, int most) {
        int value = least + random.nextInt(most - least + 1);
        if (random.nextInt(150) == 0) {
            value = random.nextBoolean() ? most + 1 : random.nextInt(2000);
        }
        String figures = (random.nextInt(30) == 0 ? "0" : "") + Math.abs(value);
        return blank() + (value < 0 ? "-" : "") + figures + blank();
    }

    private String doors(int most) {
        return "doors" + number(1, most) + "free" + number(0, 100) + "price" + number(0, some(0, 5, 20, 60, 999)) + ";" + blank();
    }

    private String streetText() {
        StringBuilder text = new StringBuilder();
        int parts = 1 + random.nextInt(3);
        for (int k = 0; k < parts; k++) {
            text.append(doors(Math.max(1, mostDoors / parts)));
        }
        String[] clauses = {"alike" + number(-50, 50), "walk" + number(0, some(3, 10, 99)), "drive" + number(0, some(1, 3, 10, 99)),
            "late" + number(0, some(5, 20, 99)), "curtain" + number(0, some(10, 30, 60, 200)), "see" + number(0, 2),
            "round" + number(0, some(3, 10, 60)) + "times" + number(0, 3), "garage" + number(0, some(30, 100, 300, 999))};
        for (String clause : clauses) {
            if (random.nextInt(4) > 0) {
                text.append(clause).append(";").append(blank());
            }
        }
        if (random.nextInt(30) == 0) {
            text.append(clauses[random.nextInt(clauses.length)]).append(";");
        }
        return spoilt(text);
    }

    private String ruleText() {
        StringBuilder text = new StringBuilder("from" + number(0, some(mostDoors, 24)));
        int m = 1;
        for (int k = random.nextInt(4); k > 0; k--) {
            m = random.nextInt(20) == 0 ? m : m + random.nextInt(3) + (m > 1 ? 1 : 0);
            text.append("seen").append(blank()).append(m).append(blank()).append("from").append(number(0, mostDoors));
        }
        if (random.nextBoolean()) {
            text.append("round").append(number(0, 3));
        }
        return spoilt(text);
    }

    /** Now and then a byte goes, comes or changes. */
    private String spoilt(StringBuilder text) {
        if (random.nextInt(5) != 0 || text.length() == 0) {
            return text.toString();
        }
        int at = random.nextInt(text.length());
        String bytes = "abdefrsw0159 ;-;-  " + (char) random.nextInt(256);
        char other = bytes.charAt(random.nextInt(bytes.length()));
        switch (random.nextInt(4)) {
            case 0:
                text.deleteCharAt(at);
                break;
            case 1:
                text.insert(at, other);
                break;
            case 2:
                text.setLength(at);
                break;
            default:
                text.setCharAt(at, other);
                break;
        }
        return text.toString();
    }

    private void feedAll(String text) {
        byte[] bytes = text.getBytes(StandardCharsets.ISO_8859_1);
        for (int from = 0; from < bytes.length; from += 8) {
            int n = Math.min(8, bytes.length - from);
            long packed = Due.packed(bytes, from, n);
            same("feed(" + n + ", " + packed + ")", x.feed(n, packed), y.feed(n, packed));
        }
    }

    private void tellStreet(int s) {
        feedAll(streetText());
        same("street(" + s + ")", x.street(s), y.street(s));
        same("fault()", x.fault(), y.fault());
    }

    private void tellRule() {
        feedAll(ruleText());
        same("rule()", x.rule(), y.rule());
        same("fault()", x.fault(), y.fault());
        if (y.count(4) > 0) {
            same("street(0)", x.street(2), y.street(2));
        }
    }

    private void step() {
        switch (random.nextInt(8)) {
            case 0:
                stepOfTexts();
                break;
            case 1:
                stepOfStreets();
                break;
            case 2:
                stepOfWays();
                break;
            case 3:
                stepOfRules();
                break;
            case 4:
                stepOfRow();
                break;
            case 5:
                stepOfCars();
                break;
            case 6:
                stepOfWaiting();
                break;
            default:
                stepOfImages();
                break;
        }
    }

    private void stepOfTexts() {
        int kind = random.nextInt(12);
        if (kind == 0) {
            tellStreet(some(0, 1, 2, 2, 2, -1, 3));
        } else if (kind == 1) {
            tellRule();
        } else if (kind == 2) {
            int n = in(1, 8);
            long bytes = random.nextLong();
            same("feed(" + n + ", " + bytes + ")", x.feed(n, bytes), y.feed(n, bytes));
            int s = in(0, 2);
            same("street(" + s + ")", x.street(s), y.street(s));
            same("fault()", x.fault(), y.fault());
        } else {
            int what = in(0, 4);
            same("count(" + what + ")", x.count(what), y.count(what));
        }
    }

    private void stepOfStreets() {
        int s = in(0, 1);
        int i = in(0, mostDoors - 1);
        int r = in(0, 3);
        boolean free = random.nextBoolean();
        int what = in(0, 9);
        switch (random.nextInt(4)) {
            case 0:
                same("told(" + s + ", " + what + ")", x.told(s, what), y.told(s, what));
                break;
            case 1:
                same("door(" + s + ", " + i + ", " + (what & 1) + ")", x.door(s, i, what & 1), y.door(s, i, what & 1));
                same("door(" + s + ", " + i + ", " + what + ")", x.door(s, i, what), y.door(s, i, what));
                break;
            case 2:
                same("chance(" + s + ", " + i + ", " + free + ")", x.chance(s, i, free), y.chance(s, i, free));
                break;
            default:
                same("taking(" + s + ", " + r + ", " + i + ")", x.taking(s, r, i), y.taking(s, r, i));
                break;
        }
    }

    private void stepOfWays() {
        int s = in(0, 1);
        int r = random.nextBoolean() ? 0 : in(0, 3);
        int i = in(0, mostDoors - 1);
        int sight = in(0, some(1, 3, 7));
        String place = "(" + s + ", " + r + ", " + i + ", " + sight + ")";
        int what = in(0, 1);
        switch (random.nextInt(7)) {
            case 0:
                same("worth" + place, x.worth(s, r, i, sight), y.worth(s, r, i, sight));
                break;
            case 1:
                same("goingOn" + place, x.goingOn(s, r, i, sight), y.goingOn(s, r, i, sight));
                break;
            case 2:
                same("takes" + place, x.takes(s, r, i, sight), y.takes(s, r, i, sight));
                break;
            case 3:
                same("start(" + s + ", " + r + ")", x.start(s, r), y.start(s, r));
                break;
            case 4:
                same("end(" + s + ", " + r + ", " + what + ")", x.end(s, r, what), y.end(s, r, what));
                break;
            case 5:
                same("bar(" + s + ", " + r + ")", x.bar(s, r), y.bar(s, r));
                break;
            default:
                int b = in(0, 2);
                same("which(" + s + ", " + b + ")", x.which(s, b), y.which(s, b));
                break;
        }
    }

    private void stepOfRules() {
        int s = in(0, 1);
        int k = in(0, 2);
        int what = in(0, 2);
        int n = in(1, some(3, 50));
        if (random.nextBoolean()) {
            same("mean(" + s + ", " + k + ", " + what + ")", x.mean(s, k, what), y.mean(s, k, what));
        } else {
            same("evening(" + s + ", " + k + ", " + n + ")", x.evening(s, k, n), y.evening(s, k, n));
        }
    }

    private void stepOfRow() {
        int s = in(0, 1);
        int r = random.nextBoolean() ? 0 : in(0, 3);
        boolean flag = random.nextBoolean();
        int kind = random.nextInt(10);
        if (kind < 4) {
            same("saw(" + flag + ")", x.saw(flag), y.saw(flag));
        } else if (kind == 4 && random.nextInt(run % 3 == 0 ? 40 : 4) == 0) {
            same("clear()", x.clear(), y.clear());
        } else if (kind < 7) {
            same("judge(" + s + ", " + r + ", " + flag + ")", x.judge(s, r, flag), y.judge(s, r, flag));
        } else {
            int b = in(0, 1);
            same("thought(" + s + ", " + b + ")", x.thought(s, b), y.thought(s, b));
        }
    }

    private void stepOfCars() {
        int s = in(0, 1);
        int n = Math.max(1, y.told(s, 0));
        int set = in(0, (1 << n) - 1);
        int c = in(0, Math.max(0, y.count(3) - 1));
        String at = "(" + s + ", " + set + ")";
        switch (random.nextInt(9)) {
            case 0:
                if (random.nextInt(run % 3 == 0 ? 40 : 4) == 0) {
                    int walk = in(0, some(5, 20, 99));
                    int bar = in(0, 24);
                    same("car(" + walk + ", " + bar + ")", x.car(walk, bar), y.car(walk, bar));
                }
                break;
            case 1:
                int b = in(0, some(n, 24));
                same("steer(" + c + ", " + b + ")", x.steer(c, b), y.steer(c, b));
                break;
            case 2:
                same("rests" + at, x.rests(s, set), y.rests(s, set));
                break;
            case 3:
                same("turn" + at, x.turn(s, set), y.turn(s, set));
                same("rests" + at, x.rests(s, set), y.rests(s, set));
                break;
            case 4:
                same("allRests" + at, x.allRests(s, set), y.allRests(s, set));
                break;
            case 5:
                same("lost" + at, x.lost(s, set), y.lost(s, set));
                break;
            case 6:
                int door = in(0, n - 1);
                same("mend(" + s + ", " + set + ", " + door + ")", x.mend(s, set, door), y.mend(s, set, door));
                break;
            default:
                int what = in(0, 1);
                same("parks(" + s + ", " + set + ", " + c + ", " + what + ")", x.parks(s, set, c, what), y.parks(s, set, c, what));
                break;
        }
    }

    private void stepOfWaiting() {
        int s = in(0, 1);
        if (random.nextInt(4) == 0) {
            same("boy(" + s + ")", x.boy(s), y.boy(s));
            return;
        }
        int r = random.nextBoolean() ? 0 : in(0, 3);
        int i = in(0, mostDoors - 1);
        int sight = in(0, some(0, 3, 7));
        int q = in(0, 100);
        int u = in(0, some(3, 99));
        int what = in(0, 1);
        same("waits(" + s + ", " + r + ", " + i + ", " + sight + ", " + q + ", " + u + ", " + what + ")",
                x.waits(s, r, i, sight, q, u, what), y.waits(s, r, i, sight, q, u, what));
    }

    private void stepOfImages() {
        int i = in(0, 1);
        int kind = random.nextInt(6);
        if (kind == 0) {
            same("keep(" + i + ")", x.keep(i), y.keep(i));
        } else if (kind == 1) {
            same("goBack(" + i + ")", x.goBack(i), y.goBack(i));
        } else {
            int v = random.nextInt() >>> random.nextInt(2);
            same("seed(" + v + ")", x.seed(v), y.seed(v));
        }
    }
}
