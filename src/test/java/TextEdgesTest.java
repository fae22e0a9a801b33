/** The edges of part 1 of the document, sentence by sentence: THE TEXT, NUMBERS, clauses, FAULTS, CHANCE, TAKING. */
public final class TextEdgesTest {
    private static final int NONE = LastPlace.NONE, UNKNOWN = LastPlace.UNKNOWN, OUTSIDE = LastPlace.OUTSIDE;
    private static final int FULL = LastPlace.FULL;
    private static final int LEAST_INT = Integer.MIN_VALUE, GREATEST_INT = Integer.MAX_VALUE;
    private static final String ONE_DOOR = "doors 1 free 1 price 1;";

    /** The NUMBERS of a STREET: what stands ahead, least, most, what stands behind, and how told() asks for it. */
    private static final Object[][] NUMBERS = {
        {"doors ", 1, 24, " free 1 price 1;", 0}, {"alike ", -50, 50, ";", 1}, {"walk ", 0, 99, ";", 2}, {"drive ", 0, 99, ";", 3},
        {"late ", 0, 99, ";", 4}, {"curtain ", 0, 200, ";", 5}, {"see ", 0, 2, ";", 6}, {"round ", 0, 60, " times 1;", 7},
        {"round 1 times ", 0, 3, ";", 8}, {"garage ", 0, 999, ";", 9}, {"doors 1 free ", 0, 100, " price 1;", 10},
        {"doors 1 free 1 price ", 0, 999, ";", 11}};

    public static void main(String[] args) {
        atMost240Bytes();
        upToEightBytes();
        bytesOfAnyValue();
        eachNumberAtItsBounds();
        oneToThreeFigures();
        aMinusAheadOfAlikeAlone();
        whatIsNotTold();
        allButDoorsOnce();
        doorsManyTimes();
        someDoorsThereMustBe();
        the25thDoor();
        blanks();
        words();
        atTheFirstByte();
        ofTheseTheLeast();
        theEndOfEachClause();
        aStreetThatWasNotTold();
        aFaultLeavesTheStreet();
        theLatestFault();
        chanceFrom0To100();
        lateIs0AtLeast();
        ticks();
        Due.close();
    }

    private static String at(Object[] number, Object value) {
        String clause = "" + number[0] + value + number[3];
        return clause.startsWith("doors") ? clause : ONE_DOOR + clause;
    }

    private static int whereIn(Object[] number) {
        String ahead = "" + number[0];
        return ahead.startsWith("doors") ? ahead.length() : ONE_DOOR.length() + ahead.length();
    }

    private static int told(LastPlace x, Object[] number) {
        int what = (Integer) number[4];
        return what < 10 ? x.told(0, what) : x.door(0, 0, what - 10);
    }

    /** "240 bytes at most"; "FULL (240)": for each n the last TEXT that it goes behind, and the first that it does not. */
    private static void atMost240Bytes() {
        for (int n = 1; n <= 8; n++) {
            LastPlace x = new LastPlace();
            for (int size = 1; size <= 240 - n; size++) {
                Due.is("feed(1) to " + size, x.feed(1, ' '), size);
            }
            Due.is("feed(" + n + ") to 240", x.feed(n, 0x2020202020202020L), 240);
            Due.is("feed(1) at 240", x.feed(1, ' '), FULL);
            Due.is("feed(8) at 240", x.feed(8, ' '), FULL);
            Due.is("feed(0) at 240", x.feed(0, ' '), OUTSIDE);
            Due.is("feed(9) at 240", x.feed(9, ' '), OUTSIDE);
            Due.is("240 bytes", x.count(4), 240);
            Due.is("240 blanks", x.street(0), -11);
            Due.is("the end of 240 blanks", x.fault(), 240);
            Due.is("it is empty then", x.count(4), 0);
            Due.is("feed(1) behind nothing", x.feed(1, ' '), 1);
            LastPlace y = new LastPlace();
            for (int size = 1; size <= 241 - n; size++) {
                y.feed(1, size == 1 ? ';' : ' ');
            }
            Due.is("feed(" + n + ") to 241", y.feed(n, 0x3b3b3b3b3b3b3b3bL), FULL);
            Due.is("nothing of it came", y.count(4), 241 - n);
        }
        LastPlace z = new LastPlace();
        Due.is("its last byte is the 240th", Due.street(z, 0, "doors 1 free 1 price 1" + " ".repeat(217) + ";"), 1);
        Due.is("its last byte lacks", Due.street(z, 0, "doors 1 free 1 price 1" + " ".repeat(218)), -11);
        Due.is("where", z.fault(), 240);
    }

    /** "Up to eight bytes (n 1 .. 8) of a long, the highest of these first". */
    private static void upToEightBytes() {
        String text = "see 0;doors 1 free 10 price 20;";
        byte[] bytes = text.getBytes(java.nio.charset.StandardCharsets.ISO_8859_1);
        for (int n = 1; n <= 8; n++) {
            LastPlace x = new LastPlace();
            for (int from = 0; from < bytes.length; from += n) {
                int now = Math.min(n, bytes.length - from);
                long above = now == 8 ? 0 : -1L << (8 * now);
                Due.is("feed(" + now + ")", x.feed(now, above | Due.packed(bytes, from, now)), from + now);
            }
            Due.is("by " + n + " bytes", x.street(0), 1);
            Due.is("by " + n + " bytes, C", x.door(0, 0, 0), 10);
            Due.is("by " + n + " bytes, price", x.door(0, 0, 1), 20);
        }
        for (int n : new int[] {0, 9, -1, LEAST_INT, GREATEST_INT}) {
            LastPlace x = new LastPlace();
            Due.is("feed(" + n + ")", x.feed(n, -1L), OUTSIDE);
            Due.is("no byte came", x.count(4), 0);
        }
    }

    /** A byte that cannot stand there is one, whatever its value. */
    private static void bytesOfAnyValue() {
        for (int value = 0; value < 256; value++) {
            LastPlace x = new LastPlace();
            x.feed(1, value);
            Due.is("byte " + value, x.street(0), -11);
            Due.is("byte " + value + ", where", x.fault(), value == ' ' ? 1 : 0);
            boolean stands = value == ' ' || value == ';';
            LastPlace y = new LastPlace();
            Due.text(y, "doors 1 free 1 price 1");
            y.feed(1, value);
            Due.text(y, value == ';' ? "" : ";");
            boolean figure = value >= '0' && value <= '9';
            Due.is("byte " + value + " behind a price", y.street(0), stands || figure ? 1 : -11);
            Due.is("byte " + value + " behind a price, where", y.fault(), stands || figure ? NONE : 22);
        }
    }

    private static void eachNumberAtItsBounds() {
        for (Object[] number : NUMBERS) {
            int least = (Integer) number[1];
            int most = (Integer) number[2];
            for (int value : new int[] {least, least + 1, most - 1, most}) {
                LastPlace x = new LastPlace();
                Due.is(at(number, value), Due.street(x, 0, at(number, value)) > 0 ? 1 : 0, 1);
                Due.is(at(number, value) + " is told", told(x, number), value);
                Due.is(at(number, value) + " has no fault", x.fault(), NONE);
            }
            Due.streetFault(at(number, most < 999 ? "" + (most + 1) : "1000"), 2, whereIn(number));
            if (least != 0) {
                Due.streetFault(at(number, least - 1), 2, whereIn(number));
            }
            if (most < 999) {
                Due.streetFault(at(number, 999), 2, whereIn(number));
            }
        }
    }

    /** "NUMBERS have one to three figures"; 2: "four figures or more (at its first, or its '-')". */
    private static void oneToThreeFigures() {
        for (Object[] number : NUMBERS) {
            LastPlace x = new LastPlace();
            Due.is("one figure", Due.street(x, 0, at(number, "1")) > 0 ? 1 : 0, 1);
            Due.is("two figures", Due.street(x, 0, at(number, "02")) > 0 ? 1 : 0, 1);
            Due.is("three figures", Due.street(x, 0, at(number, "001")) > 0 ? 1 : 0, 1);
            Due.is("three figures are told", told(x, number), 1);
            Due.streetFault(at(number, "0001"), 2, whereIn(number));
            Due.streetFault(at(number, "00000000000000000001"), 2, whereIn(number));
            Due.streetFault(at(number, "4294967297"), 2, whereIn(number));
            Due.streetFault(at(number, ""), 1, whereIn(number) + (("" + number[3]).startsWith(" ") ? 1 : 0));
            Due.streetFault(at(number, "1 1"), 1, whereIn(number) + 2);
        }
        Due.streetFault("alike -0001;", 2, 6);
        Due.streetFault("alike -9999", 2, 6);
        Due.streetFault("late 1000", 2, 5);
    }

    /** "'-' may stand at once ahead of those of 'alike' (else 1 at the byte behind it)". */
    private static void aMinusAheadOfAlikeAlone() {
        LastPlace x = new LastPlace();
        String[] texts = {"-50", "-050", "-1", "-0", "-000", "   -7"};
        int[] values = {-50, -50, -1, 0, 0, -7};
        for (int k = 0; k < texts.length; k++) {
            Due.is("alike" + texts[k], Due.street(x, 0, ONE_DOOR + "alike" + texts[k] + ";"), 1);
            Due.is("alike" + texts[k] + " is told", x.told(0, 1), values[k]);
        }
        Due.streetFault("alike -51;", 2, 6);
        Due.streetFault("alike -999;", 2, 6);
        for (String behind : new String[] {"", " ", " 5;", "-5;", ";", "x", "+5;", "alike"}) {
            Due.streetFault("alike -" + behind, 1, 7);
        }
        Due.streetFault("alike 5-", 1, 7);
        Due.streetFault("alike 5 -5;", 1, 8);
        for (Object[] number : NUMBERS) {
            if ((Integer) number[1] >= 0) {
                Due.streetFault(at(number, "-1"), 1, whereIn(number));
                Due.streetFault(at(number, "-0"), 1, whereIn(number));
                Due.streetFault(at(number, "-"), 1, whereIn(number));
            }
        }
    }

    /** "What is not told: alike 0, walk 2, drive 1, late 5, curtain 30, see 1, round 10 times 0, garage 200." */
    private static void whatIsNotTold() {
        int[] notTold = {1, 0, 2, 1, 5, 30, 1, 10, 0, 200};
        int[] values = {1, -9, 9, 8, 7, 6, 0, 5, 3, 4};
        String[] clauses = {"", "alike -9;", "walk 9;", "drive 8;", "late 7;", "curtain 6;", "see 0;", "round 5 times 3;",
            "round 5 times 3;", "garage 4;"};
        for (int clause = 0; clause < clauses.length; clause++) {
            LastPlace x = new LastPlace();
            // what another text told in this place, or one with a fault, is forgotten
            Due.street(x, 0, "doors 2 free 2 price 2;alike 1;walk 1;drive 2;late 1;curtain 1;see 2;round 1 times 1;garage 1;");
            Due.street(x, 0, "alike 1;walk 1;drive 2;late 1;curtain 1;see 2;round 1 times 1;garage 1;");
            Due.is(clauses[clause], Due.street(x, 0, ONE_DOOR + clauses[clause]), 1);
            for (int what = 0; what < 10; what++) {
                boolean toldNow = what == clause || clause == 7 && what == 8 || clause == 8 && what == 7;
                Due.is("told " + what + " behind '" + clauses[clause] + "'", x.told(0, what), toldNow ? values[what] : notTold[what]);
            }
        }
    }

    /** "All but 'doors' once"; 3: "a clause that was told already (at its first letter)". */
    private static void allButDoorsOnce() {
        String[] clauses = {"alike 1;", "walk 1;", "drive 1;", "late 1;", "curtain 1;", "see 1;", "round 1 times 1;", "garage 1;"};
        StringBuilder all = new StringBuilder();
        for (String clause : clauses) {
            all.append(clause);
        }
        LastPlace x = new LastPlace();
        Due.is("each once", Due.street(x, 0, all + ONE_DOOR), 1);
        for (String clause : clauses) {
            int where = all.length() + ONE_DOOR.length();
            Due.streetFault(all + ONE_DOOR + clause, 3, where);
            Due.streetFault(all + ONE_DOOR + "  " + clause, 3, where + 2);
        }
        // though what it told is what holds if it is not told
        Due.streetFault("see 1;" + ONE_DOOR + "see 1;", 3, 29);
    }

    private static void doorsManyTimes() {
        LastPlace x = new LastPlace();
        StringBuilder text = new StringBuilder();
        for (int k = 0; k < 13; k++) {
            text.append("doors1free").append(k % 10).append("price").append(k % 7).append(";");
        }
        Due.is("thirteen clauses", Due.street(x, 0, text.toString()), 13);
        for (int k = 0; k < 13; k++) {
            Due.is("C of DOOR " + k, x.door(0, k, 0), k % 10);
            Due.is("price of DOOR " + k, x.door(0, k, 1), k % 7);
        }
    }

    /** "some DOORS there must be"; 1: "the end without DOORS"; "the end at the text's length". */
    private static void someDoorsThereMustBe() {
        String[] texts = {"", " ", "walk 1;", "walk 1; ", "alike 1;walk 1;drive 1;late 1;curtain 1;see 1;round 1 times 1;garage 1;"};
        for (String text : texts) {
            Due.streetFault(text, 1, text.length());
        }
        Due.streetFault(" ".repeat(240), 1, 240);
    }

    /** "1 .. 24 in all"; 4: "a 25th DOOR (at the N)". */
    private static void the25thDoor() {
        int[][] parts = {{24}, {23, 1}, {1, 23}, {12, 12}, {8, 8, 8}, {22, 1, 1}};
        for (int[] part : parts) {
            StringBuilder text = new StringBuilder();
            for (int n : part) {
                text.append("doors ").append(n).append(" free 1 price 1;");
            }
            LastPlace x = new LastPlace();
            Due.is(text.toString(), Due.street(x, 0, text.toString()), 24);
            Due.streetFault(text + "doors 1 free 1 price 1;", 4, text.length() + 6);
            Due.streetFault(text + "doors   24", 4, text.length() + 8);
            Due.streetFault(text + "doors 1", 4, text.length() + 6);
            // out of its own bounds it is 2, which is less
            Due.streetFault(text + "doors 25", 2, text.length() + 6);
            Due.streetFault(text + "doors 0", 2, text.length() + 6);
            Due.streetFault(text + "doors", 1, text.length() + 5);
        }
        Due.streetFault("doors 2 free 1 price 1;doors 23 free 1 price 1;", 4, 29);
        Due.streetFault("doors 25 free 1 price 1;", 2, 6);
        Due.streetFault("doors 0 free 1 price 1;", 2, 6);
        Due.streetFault("doors 000 free 1 price 1;", 2, 6);
    }

    /** "blanks (32) may stand anywhere but within words and NUMBERS; two words side by side need one". */
    private static void blanks() {
        LastPlace x = new LastPlace();
        Due.is("none", Due.street(x, 0, "doors3free4price5;alike-6;walk7;round8times2;"), 3);
        Due.is("none, told", x.told(0, 1) + x.told(0, 2) + x.told(0, 7) + x.told(0, 8), -6 + 7 + 8 + 2);
        Due.is("many", Due.street(x, 0, "  doors  3  free  4  price  5  ;  alike  -6  ;  round  8  times  2  ;  "), 3);
        Due.streetFault("doors 1 1 free 1 price 1;", 1, 8);
        Due.streetFault("do ors 1 free 1 price 1;", 1, 0);
        Due.streetFault("walk 1 0;", 1, 7);
        Due.streetFault("round 1 ti mes 1;", 1, 8);
        // words need no blank beside a NUMBER, but beside one another
        Due.streetFault("doors 1 freeprice 1;", 1, 8);
        Due.streetFault("walkdoors 1 free 1 price 1;", 1, 0);
        for (char other : new char[] {9, 10, 11, 13, 31, 33, 160}) {
            Due.streetFault("walk" + other + "1;", 1, 4);
        }
    }

    /** "words are letters a .. z side by side"; 1: "a word that cannot: at its first letter". */
    private static void words() {
        String[] words = {"doors", "alike", "walk", "drive", "late", "curtain", "see", "round", "garage"};
        for (String word : words) {
            Due.streetFault(" " + word.substring(1) + " 1;", 1, 1);
            Due.streetFault(" " + word.substring(0, word.length() - 1) + " 1;", 1, 1);
            Due.streetFault(" " + word + "a 1;", 1, 1);
            Due.streetFault(" " + word + "z 1;", 1, 1);
            Due.streetFault(" a" + word + " 1;", 1, 1);
            Due.streetFault(" " + word.toUpperCase() + " 1;", 1, 1);
            Due.streetFault(" " + word.substring(0, 1) + word.substring(1).toUpperCase() + " 1;", 1, 1);
            Due.streetFault(" " + word + "A 1;", 1, 1 + word.length());
            Due.streetFault(" " + word + "`1;", 1, 1 + word.length());
            Due.streetFault(" " + word + "{1;", 1, 1 + word.length());
        }
        // words that stand elsewhere, and those of RULES, begin no clause
        for (String word : new String[] {"free", "price", "times", "from", "seen"}) {
            Due.streetFault(ONE_DOOR + word + " 1;", 1, ONE_DOOR.length());
        }
        Due.streetFault("doors 1 times 1 price 1;", 1, 8);
        Due.streetFault("doors 1 free 1 free 1;", 1, 15);
        Due.streetFault("round 1 free 1;", 1, 8);
        Due.streetFault("seen 1;", 1, 0);
    }

    /** "FAULTS, at the first byte that has one". */
    private static void atTheFirstByte() {
        // the first of two faults of a kind, and of two kinds in either order
        Due.streetFault("see 3;walk 100;", 2, 4);
        Due.streetFault("see 3;see 1;", 2, 4);
        Due.streetFault("see 1;see 3;", 3, 6);
        Due.streetFault("see 1 walk 100;", 1, 6);
        Due.streetFault("walk 100 see", 2, 5);
        Due.streetFault("doors 25 fre", 2, 6);
        Due.streetFault("doors 24 free 0 price 0;doors 1 fre 1 price 1;", 4, 30);
        Due.streetFault("doors 24 free 0 price 0;see 0;see 1;doors 1 free 1 price 1;", 3, 30);
        Due.streetFault("doors 24 free 0 price 0;see 0;doors 1 free 101 price 1;see 1;", 4, 36);
        Due.streetFault("doors 24 free 101 price 0;doors 1", 2, 14);
        Due.streetFault("doors 24 free 0 price 1000;doors 1", 2, 22);
        Due.streetFault("see 9", 2, 4);
    }

    /** "of these the least": of two FAULTS at one byte. */
    private static void ofTheseTheLeast() {
        // a NUMBER that is too great where none can stand: 1 and 2
        Due.streetFault("1000", 1, 0);
        Due.streetFault("walk 1 1000;", 1, 7);
        Due.streetFault("doors 1 1000 free", 1, 8);
        // a clause that was told already where none can stand: 1 and 3
        Due.streetFault("walk 1 walk 1;", 1, 7);
        Due.streetFault("walk 1;late walk 1;", 1, 12);
        Due.streetFault("walk 1;walk walk", 3, 7);
        // N out of its bounds, and the 25th DOOR: 2 and 4
        Due.streetFault("doors 24 free 1 price 1;doors 25 free 1 price 1;", 2, 30);
        Due.streetFault("doors 24 free 1 price 1;doors 0001 free 1 price 1;", 2, 30);
    }

    /** A text that ends anywhere within its last clause: 1 at its length, but where a word is cut, or nothing lacks. */
    private static void theEndOfEachClause() {
        String[] clauses = {"doors 2 free 2 price 2;", "alike -2;", "walk 2;", "drive 2;", "late 2;", "curtain 2;", "see 2;",
            "round 2 times 2;", "garage 2;"};
        for (String clause : clauses) {
            for (int size = 1; size < clause.length(); size++) {
                String text = ONE_DOOR + clause.substring(0, size);
                int wordAt = size;
                while (wordAt > 0 && Character.isLetter(clause.charAt(wordAt - 1))) {
                    wordAt--;
                }
                boolean wordIsCut = wordAt < size && Character.isLetter(clause.charAt(size));
                Due.streetFault(text, 1, wordIsCut ? ONE_DOOR.length() + wordAt : text.length());
            }
            LastPlace x = new LastPlace();
            Due.is("it is whole", Due.street(x, 0, ONE_DOOR + clause) > 0 ? 1 : 0, 1);
        }
    }

    /** "A STREET that was not told has no DOORS and is not there." "UNKNOWN (0 .. 2; THE TEXT stays)". */
    private static void aStreetThatWasNotTold() {
        for (int s = 0; s <= 2; s++) {
            LastPlace x = new LastPlace();
            Due.text(x, "doors 1 free 7 price 1;");
            for (int other : new int[] {-1, 3, LEAST_INT, GREATEST_INT}) {
                Due.is("street(" + other + ")", x.street(other), UNKNOWN);
                Due.is("THE TEXT stays", x.count(4), 23);
                Due.is("no fault", x.fault(), NONE);
            }
            Due.is("street(" + s + ")", x.street(s), 1);
            for (int other = 0; other <= 2; other++) {
                Due.is("told of " + other, x.told(other, 0), other == s ? 1 : UNKNOWN);
                Due.is("C of " + other, x.door(other, 0, 0), other == s ? 7 : UNKNOWN);
                Due.is("start of " + other, x.start(other, 0) == UNKNOWN ? 1 : 0, other == s ? 0 : 1);
            }
        }
    }

    /** "-10 less the number of its FAULT (it is as it was)"; "THE TEXT (it is empty then)". */
    private static void aFaultLeavesTheStreet() {
        String[] texts = {"doors 9 free 9 price 9;walk 9;x", "doors 9 free 9 price 9;walk 100;", "doors 9 free 9 price 9;walk 9;walk 9;",
            "doors 20 free 9 price 9;walk 9;doors 5 free 9 price 9;"};
        for (int k = 0; k < texts.length; k++) {
            LastPlace x = Due.with("doors 2 free 30 price 4;walk 5;");
            int start = x.start(0, 0);
            Due.is(texts[k], Due.street(x, 0, texts[k]), -11 - k);
            Due.is("it is empty", x.count(4), 0);
            Due.is("its DOORS", x.told(0, 0), 2);
            Due.is("its walk", x.told(0, 2), 5);
            Due.is("its C", x.door(0, 1, 0), 30);
            Due.is("its price", x.door(0, 1, 1), 4);
            Due.is("no DOOR more", x.door(0, 2, 1), UNKNOWN);
            Due.is("its start", x.start(0, 0), start);
            Due.is("in a new place", Due.street(x, 1, texts[k]), -11 - k);
            Due.is("there is none", x.told(1, 0), UNKNOWN);
        }
    }

    /** "The byte of the FAULT of the latest street() or rule() that was not refused otherwise; NONE." */
    private static void theLatestFault() {
        LastPlace x = new LastPlace();
        Due.is("of a new object", x.fault(), NONE);
        Due.is("street(3)", x.street(3), UNKNOWN);
        Due.is("refused", x.fault(), NONE);
        Due.street(x, 0, " x");
        Due.is("of a street", x.fault(), 1);
        Due.text(x, ONE_DOOR);
        Due.is("street(-1)", x.street(-1), UNKNOWN);
        Due.is("stays", x.fault(), 1);
        Due.is("street(0)", x.street(0), 1);
        Due.is("none", x.fault(), NONE);
        Due.is("a fault at byte 0 is not NONE", Due.street(x, 0, "x"), -11);
        Due.is("byte 0", x.fault(), 0);
        Due.rule(x, "from 0");
        Due.is("none of a rule", x.fault(), NONE);
        Due.rule(x, "from 0 from");
        Due.is("of a rule", x.fault(), 7);
        Due.text(x, "x" + " ".repeat(80));
        Due.is("NOT", x.rule(), LastPlace.NOT);
        Due.is("stays behind NOT", x.fault(), 7);
        Due.is("street(0)", x.street(0), -11);
        for (int k = 1; k < 4; k++) {
            Due.rule(x, "from 0");
        }
        Due.rule(x, "from 0 from");
        Due.is("stays behind FULL: of the rule ahead", x.fault(), NONE);
        Due.is("of a street", x.street(0) == -11 ? x.fault() : UNKNOWN, 0);
        Due.text(x, "from 0");
        Due.is("FULL", x.rule(), FULL);
        Due.is("stays behind FULL: of the street ahead", x.fault(), 0);
    }

    /** "C of it; if i is above 0: and A, if DOOR i - 1 is free, less A, if not (0 to 100 then)". */
    private static void chanceFrom0To100() {
        // C, A, behind a free DOOR, behind a taken one
        int[][] cases = {{50, 50, 100, 0}, {51, 50, 100, 1}, {49, 50, 99, 0}, {100, 50, 100, 50}, {0, 50, 50, 0}, {50, -50, 0, 100},
            {51, -50, 1, 100}, {49, -50, 0, 99}, {100, -50, 50, 100}, {0, -50, 0, 50}, {0, 0, 0, 0}, {100, 0, 100, 100},
            {100, 1, 100, 99}, {0, 1, 1, 0}, {99, 1, 100, 98}, {1, 1, 2, 0}, {1, -1, 0, 2}, {99, -1, 98, 100}};
        for (int[] c : cases) {
            LastPlace x = Due.with("doors 3 free " + c[0] + " price 0;alike " + c[1] + ";");
            String of = "C " + c[0] + " and A " + c[1];
            Due.is(of + " at DOOR 0, free", x.chance(0, 0, true), c[0]);
            Due.is(of + " at DOOR 0, taken", x.chance(0, 0, false), c[0]);
            for (int i = 1; i < 3; i++) {
                Due.is(of + " behind a free one", x.chance(0, i, true), c[2]);
                Due.is(of + " behind a taken one", x.chance(0, i, false), c[3]);
            }
        }
    }

    /** "L times what its TICK and n less i is more than T (0 at least)". */
    private static void lateIs0AtLeast() {
        int[][] cases = {{200, 0}, {5, 0}, {4, 0}, {3, 7}, {2, 14}, {0, 28}};
        for (int[] c : cases) {
            LastPlace x = Due.with("doors 4 free 50 price 10;walk 1;late 7;curtain " + c[0] + ";garage 50;");
            for (int i = 0; i < 4; i++) {
                Due.is("curtain " + c[0] + ", DOOR " + i, x.taking(0, 0, i), (10 + 4 - i + c[1]) * 1000);
            }
            Due.is("curtain " + c[0] + ", the garage", x.end(0, 0, 0), (50 + c[1]) * 1000);
        }
        LastPlace y = Due.with("doors 1 free 0 price 0;walk 0;late 99;curtain 1;");
        Due.is("the least", y.taking(0, 0, 0), 0);
        Due.street(y, 0, "doors 24 free 0 price 999;walk 99;late 99;curtain 0;round 60 times 3;garage 999;");
        Due.is("the most", y.taking(0, 3, 0), (999 + 2376 + 99 * 276) * 1000);
        Due.is("the garage at the most", y.end(0, 3, 0), (999 + 99 * 276) * 1000);
    }

    /** "TICK of DOOR i in ROUND r: r times (n and R), and i"; "ROUNDS are 0 to K". */
    private static void ticks() {
        LastPlace x = Due.with("doors 2 free 0 price 0;walk 0;late 1;curtain 0;round 7 times 3;");
        for (int r = 0; r <= 3; r++) {
            Due.is("ROUND " + r, x.taking(0, r, 0), (9 * r + 2) * 1000);
            Due.is("ROUND " + r + ", the last DOOR", x.taking(0, r, 1), (9 * r + 2) * 1000);
        }
        for (int times = 0; times <= 3; times++) {
            LastPlace y = Due.with("doors 2 free 0 price 0;round 0 times " + times + ";");
            Due.is("the last ROUND", y.taking(0, times, 0) > 0 ? 1 : 0, 1);
            for (int r : new int[] {times + 1, -1, LEAST_INT, GREATEST_INT}) {
                Due.is("ROUND " + r + " of " + times, y.taking(0, r, 0), OUTSIDE);
            }
        }
    }
}
