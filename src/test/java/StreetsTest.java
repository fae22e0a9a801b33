/** Promises 1 to 8: a new object, feed, street, fault, told, door, chance, taking. */
public final class StreetsTest {
    private static final int NONE = LastPlace.NONE, UNKNOWN = LastPlace.UNKNOWN, OUTSIDE = LastPlace.OUTSIDE;
    private static final int FULL = LastPlace.FULL;
    private static final String ALL = "doors 3 free 40 price 7;doors 2 free 90 price 999;alike -15;walk 4;drive 3;late 6;"
            + "curtain 9;see 2;round 8 times 2;garage 77;";

    public static void main(String[] args) {
        newObject();
        feed();
        street();
        faultsOfWordsAndSigns();
        faultsOfNumbers();
        faultsOfClauses();
        fault();
        told();
        door();
        chance();
        taking();
        Due.close();
    }

    private static void newObject() {
        LastPlace x = new LastPlace();
        for (int s = -1; s <= 3; s++) {
            Due.is("told of a new object", x.told(s, 0), UNKNOWN);
        }
        for (int what = 0; what <= 4; what++) {
            Due.is("count(" + what + ") of a new object", x.count(what), 0);
        }
        Due.is("fault of a new object", x.fault(), NONE);
        Due.is("mean of a new object", x.mean(0, 0, 0), UNKNOWN);
        Due.is("steer of a new object", x.steer(0, 0), UNKNOWN);
        Due.is("goBack of a new object", x.goBack(0), LastPlace.NOT);
        Due.is("seed of a new object", x.seed(0), 0);
        Due.is("NONE", NONE, -1);
        Due.is("UNKNOWN", UNKNOWN, -1001);
        Due.is("OUTSIDE", OUTSIDE, -1002);
        Due.is("NOT", LastPlace.NOT, -1003);
        Due.is("FULL", FULL, -1004);
    }

    private static void feed() {
        LastPlace x = new LastPlace();
        Due.is("feed(0)", x.feed(0, 0L), OUTSIDE);
        Due.is("feed(9)", x.feed(9, 0L), OUTSIDE);
        Due.is("feed(-1)", x.feed(-1, 0L), OUTSIDE);
        Due.is("feed(least int)", x.feed(Integer.MIN_VALUE, 0L), OUTSIDE);
        Due.is("nothing came", x.count(4), 0);
        for (int k = 1; k <= 29; k++) {
            Due.is("feed by eights", x.feed(8, -1L), 8 * k);
        }
        Due.is("feed(7) to 239", x.feed(7, 0L), 239);
        Due.is("feed(2) over 240", x.feed(2, 0L), FULL);
        Due.is("feed(9) over 240", x.feed(9, 0L), OUTSIDE);
        Due.is("still 239", x.count(4), 239);
        Due.is("feed(1) to 240", x.feed(1, 0L), 240);
        Due.is("feed(1) to 241", x.feed(1, 0L), FULL);
        // The bytes above the n lowest do not count, and the highest of those that do comes first.
        LastPlace y = new LastPlace();
        String text = "doors 1 free 1 price 2;";
        for (int k = 0; k < text.length(); k++) {
            y.feed(1, 0x7777777777777700L | text.charAt(k));
        }
        Due.is("a text byte by byte", y.street(0), 1);
        LastPlace z = new LastPlace();
        z.feed(8, 0x646f6f727332206cL);
        Due.is("a blank, then a word that cannot stand", z.street(0), -11);
        Due.is("where", z.fault(), 7);
    }

    private static void street() {
        LastPlace x = new LastPlace();
        Due.is("street of all", Due.street(x, 1, ALL), 5);
        Due.is("the text is empty", x.count(4), 0);
        Due.is("street 0 is not there", x.told(0, 0), UNKNOWN);
        Due.is("one without blanks", Due.street(x, 0, "doors5free50price10;alike-20;round3times1;"), 5);
        Due.is("its alike", x.told(0, 1), -20);
        Due.is("its times", x.told(0, 8), 1);
        Due.is("many blanks", Due.street(x, 2, "   doors  1  free  007  price  010  ;  see  2  ;  "), 1);
        Due.is("its C", x.door(2, 0, 0), 7);
        Due.is("its price", x.door(2, 0, 1), 10);
        Due.text(x, "walk 1;");
        Due.is("street(-1)", x.street(-1), UNKNOWN);
        Due.is("street(3)", x.street(3), UNKNOWN);
        Due.is("the text stays", x.count(4), 7);
        Due.is("no doors", x.street(1), -11);
        Due.is("it is as it was", x.told(1, 0), 5);
        Due.is("its walk is as it was", x.told(1, 2), 4);
        Due.is("24 doors", Due.street(x, 1, "doors 12 free 0 price 0; doors 12 free 100 price 999;"), 24);
        Due.is("not told again", x.told(1, 2), 2);
        Due.is("the last door", x.door(1, 23, 1), 999);
        Due.is("the first behind", x.door(1, 12, 0), 100);
        Due.is("the last ahead", x.door(1, 11, 0), 0);
        Due.is("a doors clause behind others", Due.street(x, 1, "see 0;doors 1 free 5 price 5;late 0;doors 1 free 6 price 6;"), 2);
        Due.is("a text of 240 bytes", Due.street(x, 1, "doors 2 free 1 price 1;" + " ".repeat(217)), 2);
        Due.is("edges", Due.street(x, 1, "doors 24 free 100 price 999;alike 50;walk 99;drive 99;late 99;curtain 200;"
                + "see 2;round 60 times 3;garage 999;"), 24);
        Due.is("lower edges", Due.street(x, 1, "doors 1 free 0 price 0;alike -50;walk 0;drive 0;late 0;curtain 0;"
                + "see 0;round 0 times 0;garage 0;"), 1);
        Due.is("lower alike", x.told(1, 1), -50);
        Due.is("-0", Due.street(x, 1, "doors 1 free 0 price 0;alike -0;"), 1);
        Due.is("-007", Due.street(x, 1, "doors 1 free 0 price 0;alike -007;"), 1);
        Due.is("told -007", x.told(1, 1), -7);
    }

    private static void faultsOfWordsAndSigns() {
        Due.streetFault("", 1, 0);
        Due.streetFault("   ", 1, 3);
        Due.streetFault(";", 1, 0);
        Due.streetFault("dors 5 free 5 price 5;", 1, 0);
        Due.streetFault("  doorss 5 free 5 price 5;", 1, 2);
        Due.streetFault("doorsfree 5", 1, 0);
        Due.streetFault("do", 1, 0);
        Due.streetFault("walkz 3;", 1, 0);
        Due.streetFault("walka 3;", 1, 0);
        Due.streetFault("walk{ 3;", 1, 4);
        Due.streetFault("walk` 3;", 1, 4);
        Due.streetFault("walk 3/;", 1, 6);
        Due.streetFault("walk 3:;", 1, 6);
        Due.streetFault("Doors 5", 1, 0);
        Due.streetFault("doorS 5", 1, 0);
        Due.streetFault("doors\t5 free 5 price 5;", 1, 5);
        Due.streetFault("doors", 1, 5);
        Due.streetFault("doors  ", 1, 7);
        Due.streetFault("doors 5", 1, 7);
        Due.streetFault("doors 5 price 5 free 5;", 1, 8);
        Due.streetFault("doors 5 free 5 price 5", 1, 22);
        Due.streetFault("doors 5 free 5 price 5 ", 1, 23);
        Due.streetFault("doors 5 free 5 price 5;;", 1, 23);
        Due.streetFault("doors 5 free 5 price 5,", 1, 22);
        Due.streetFault("doors 5 free 5;", 1, 14);
        Due.streetFault("doors free 5 price 5;", 1, 6);
        Due.streetFault("walk 3;", 1, 7);
        Due.streetFault("walk 3; ", 1, 8);
        Due.streetFault("walk x;", 1, 5);
        Due.streetFault("walk -3;", 1, 5);
        Due.streetFault("doors -3 free 5 price 5;", 1, 6);
        Due.streetFault("walk 3 3;", 1, 7);
        Due.streetFault("walk 3x;", 1, 6);
        Due.streetFault("walk 3walk 3;", 1, 6);
        Due.streetFault("3 walk;", 1, 0);
        Due.streetFault("alike - 5;", 1, 7);
        Due.streetFault("alike -;", 1, 7);
        Due.streetFault("alike --5;", 1, 7);
        Due.streetFault("alike -", 1, 7);
        Due.streetFault("alike +5;", 1, 6);
        Due.streetFault("alike 5-;", 1, 7);
        Due.streetFault("round 5 times;", 1, 13);
        Due.streetFault("round 5 time 3;", 1, 8);
        Due.streetFault("round 5;", 1, 7);
        Due.streetFault("times 5;", 1, 0);
        Due.streetFault("free 5;", 1, 0);
        Due.streetFault("walk " + (char) 233 + ";", 1, 5);
        Due.streetFault("walk 3" + (char) 0 + ";", 1, 6);
        Due.streetFault("walk 3" + (char) 160 + ";", 1, 6);
        Due.streetFault("curtai" + (char) (256 - 'n') + " 5;", 1, 0);
        // a NUMBER of four figures where none may stand: the least of its faults
        Due.streetFault("1234", 1, 0);
        Due.streetFault("walk 3 1234;", 1, 7);
    }

    private static void faultsOfNumbers() {
        Due.streetFault("doors 0 free 5 price 5;", 2, 6);
        Due.streetFault("doors 25 free 5 price 5;", 2, 6);
        Due.streetFault("doors 5 free 101 price 5;", 2, 13);
        Due.streetFault("doors 5 free 0101 price 5;", 2, 13);
        Due.streetFault("doors 5 free 5 price 1000;", 2, 21);
        Due.streetFault("doors 5 free 5 price 0000;", 2, 21);
        Due.streetFault("alike 51;", 2, 6);
        Due.streetFault("alike -51;", 2, 6);
        Due.streetFault("alike -0001;", 2, 6);
        Due.streetFault("alike  -1234", 2, 7);
        Due.streetFault("walk 100;", 2, 5);
        Due.streetFault("drive 100;", 2, 6);
        Due.streetFault("late 100;", 2, 5);
        Due.streetFault("curtain 201;", 2, 8);
        Due.streetFault("see 3;", 2, 4);
        Due.streetFault("round 61 times 1;", 2, 6);
        Due.streetFault("round 60 times 4;", 2, 15);
        Due.streetFault("garage 1000;", 2, 7);
        Due.streetFault("walk 99999999999999999999999999x", 2, 5);
        Due.streetFault("walk 4294967297;", 2, 5);
    }

    private static void faultsOfClauses() {
        String[] clauses = {"alike 1;", "walk 1;", "drive 1;", "late 1;", "curtain 1;", "see 1;", "round 1 times 1;", "garage 1;"};
        for (String clause : clauses) {
            Due.streetFault(clause + " " + clause, 3, clause.length() + 1);
            String word = clause.substring(0, clause.indexOf(' '));
            Due.streetFault(clause + word, 3, clause.length());
            Due.streetFault(clause + word + "x", 1, clause.length());
        }
        Due.streetFault("walk 1;late 1;walk 100;", 3, 14);
        Due.streetFault("doors 20 free 5 price 5;doors 5 free 5 price 5;", 4, 30);
        Due.streetFault("doors 24 free 5 price 5;doors 1", 4, 30);
        Due.streetFault("doors 20 free 5 price 5;doors 25 free 5 price 5;", 2, 30);
        Due.streetFault("doors 20 free 5 price 5;doors 0 free 5 price 5;", 2, 30);
        Due.streetFault("doors 20 free 5 price 5;doors 5 fre 5 price 5;", 4, 30);
    }

    private static void fault() {
        LastPlace x = new LastPlace();
        Due.street(x, 0, "doors 5 free 5 price 5;see 3;");
        Due.is("a fault", x.fault(), 27);
        Due.is("a refused street", x.street(3), UNKNOWN);
        Due.is("the fault stays", x.fault(), 27);
        Due.street(x, 0, "doors 5 free 5 price 5;see 2;");
        Due.is("no fault", x.fault(), NONE);
        Due.rule(x, "from");
        Due.is("the end of a rule", x.fault(), 4);
        Due.text(x, " ".repeat(81));
        Due.is("a refused rule", x.rule(), LastPlace.NOT);
        Due.is("the fault stays", x.fault(), 4);
        Due.is("it is there still", x.street(1), -11);
        Due.is("at the end", x.fault(), 81);
        Due.rule(x, "from 1");
        Due.is("no fault of a rule", x.fault(), NONE);
    }

    private static void told() {
        LastPlace x = Due.with(ALL);
        int[] values = {5, -15, 4, 3, 6, 9, 2, 8, 2, 77};
        int[] notTold = {1, 0, 2, 1, 5, 30, 1, 10, 0, 200};
        Due.street(x, 2, "doors 1 free 0 price 0;");
        for (int what = 0; what < 10; what++) {
            Due.is("told(0, " + what + ")", x.told(0, what), values[what]);
            Due.is("told(2, " + what + ")", x.told(2, what), notTold[what]);
            Due.is("told(1, " + what + ")", x.told(1, what), UNKNOWN);
        }
        Due.is("told(0, -1)", x.told(0, -1), OUTSIDE);
        Due.is("told(0, 10)", x.told(0, 10), OUTSIDE);
        Due.is("told(1, 10)", x.told(1, 10), UNKNOWN);
        Due.is("told(3, 0)", x.told(3, 0), UNKNOWN);
        Due.is("told(-1, 0)", x.told(-1, 0), UNKNOWN);
    }

    private static void door() {
        LastPlace x = Due.with(ALL);
        Due.is("door(0, 2, 0)", x.door(0, 2, 0), 40);
        Due.is("door(0, 3, 0)", x.door(0, 3, 0), 90);
        Due.is("door(0, 2, 1)", x.door(0, 2, 1), 7);
        Due.is("door(0, 4, 1)", x.door(0, 4, 1), 999);
        Due.is("door(0, 5, 1)", x.door(0, 5, 1), UNKNOWN);
        Due.is("door(0, -1, 1)", x.door(0, -1, 1), UNKNOWN);
        Due.is("door(1, 0, 0)", x.door(1, 0, 0), UNKNOWN);
        Due.is("door(0, 0, 2)", x.door(0, 0, 2), OUTSIDE);
        Due.is("door(0, 0, -1)", x.door(0, 0, -1), OUTSIDE);
        Due.is("door(0, 5, 2)", x.door(0, 5, 2), UNKNOWN);
        // a street of fewer doors in its place: the doors behind are gone
        Due.street(x, 0, "doors 1 free 1 price 1;");
        Due.is("door(0, 1, 0)", x.door(0, 1, 0), UNKNOWN);
    }

    private static void chance() {
        LastPlace x = Due.with(ALL);
        Due.is("chance(0, 0, true)", x.chance(0, 0, true), 40);
        Due.is("chance(0, 0, false)", x.chance(0, 0, false), 40);
        Due.is("chance(0, 1, true)", x.chance(0, 1, true), 25);
        Due.is("chance(0, 1, false)", x.chance(0, 1, false), 55);
        Due.is("chance(0, 4, true)", x.chance(0, 4, true), 75);
        Due.is("chance(0, 4, false)", x.chance(0, 4, false), 100);
        Due.is("chance(0, 5, true)", x.chance(0, 5, true), UNKNOWN);
        Due.is("chance(0, -1, true)", x.chance(0, -1, true), UNKNOWN);
        Due.is("chance(1, 0, true)", x.chance(1, 0, true), UNKNOWN);
        Due.street(x, 0, "doors 2 free 10 price 1;alike 30;");
        Due.is("not below 0", x.chance(0, 1, false), 0);
        Due.is("alike", x.chance(0, 1, true), 40);
    }

    private static void taking() {
        LastPlace x = Due.with(ALL);
        // n 5, W 4, L 6, T 9, R 8: in ROUND r one is there at 13 r and 5
        Due.is("taking(0, 0, 0)", x.taking(0, 0, 0), (7 + 20) * 1000);
        Due.is("taking(0, 0, 4)", x.taking(0, 0, 4), (999 + 4) * 1000);
        Due.is("taking(0, 1, 0)", x.taking(0, 1, 0), (7 + 20 + 6 * 9) * 1000);
        Due.is("taking(0, 2, 2)", x.taking(0, 2, 2), (7 + 12 + 6 * 22) * 1000);
        Due.is("taking(0, 3, 0)", x.taking(0, 3, 0), OUTSIDE);
        Due.is("taking(0, -1, 0)", x.taking(0, -1, 0), OUTSIDE);
        Due.is("taking(0, 0, 5)", x.taking(0, 0, 5), UNKNOWN);
        Due.is("taking(0, 3, 5)", x.taking(0, 3, 5), UNKNOWN);
        Due.is("taking(1, 0, 0)", x.taking(1, 0, 0), UNKNOWN);
        Due.street(x, 1, "doors 24 free 0 price 999;walk 99;late 99;curtain 0;round 60 times 3;");
        Due.is("the most", x.taking(1, 3, 0), (999 + 99 * 24 + 99 * (3 * 84 + 24)) * 1000);
    }
}
