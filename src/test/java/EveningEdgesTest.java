/** The edges of part 5 that tell of EVENINGS and IMAGES, of a new object, and of 512 calls, sentence by sentence. */
public final class EveningEdgesTest {
    private static final int NONE = LastPlace.NONE, UNKNOWN = LastPlace.UNKNOWN, OUTSIDE = LastPlace.OUTSIDE;
    private static final int NOT = LastPlace.NOT, FULL = LastPlace.FULL;
    private static final int LEAST_INT = Integer.MIN_VALUE, GREATEST_INT = Integer.MAX_VALUE;
    private static final int MOST_CALLS = 512;

    public static void main(String[] args) {
        newObject();
        objectsApart();
        seedAtItsBounds();
        leftOverBy2ToThe31();
        drawsBelowTheChance();
        aDrawForEachDoorThatOneComesTo();
        roundsDrawAgain();
        whatOneRoundCosts();
        takenOnesAreNotPassed();
        oneAndFiftyEvenings();
        countOfWhat();
        imagesThatWereNotKept();
        whatImagesKeep();
        imagesStayAsTheyWereKept();
        fiveHundredAndTwelveCalls();
        Due.close();
    }

    /** "No STREETS, no RULES, no CARS"; THE ROW and THE TEXT are empty, THE SEED is 0. */
    private static void newObject() {
        LastPlace x = new LastPlace();
        for (int s : new int[] {0, 1, 2}) {
            Due.is("told", x.told(s, 0), UNKNOWN);
            Due.is("door", x.door(s, 0, 0), UNKNOWN);
            Due.is("chance", x.chance(s, 0, true), UNKNOWN);
            Due.is("taking", x.taking(s, 0, 0), UNKNOWN);
            Due.is("worth", x.worth(s, 0, 0, 0), UNKNOWN);
            Due.is("goingOn", x.goingOn(s, 0, 0, 0), UNKNOWN);
            Due.is("takes", x.takes(s, 0, 0, 1), UNKNOWN);
            Due.is("start", x.start(s, 0), UNKNOWN);
            Due.is("end", x.end(s, 0, 0), UNKNOWN);
            Due.is("bar", x.bar(s, 0), UNKNOWN);
            Due.is("which", x.which(s, s), UNKNOWN);
            Due.is("mean", x.mean(s, 0, 0), UNKNOWN);
            Due.is("judge", x.judge(s, 0, false), UNKNOWN);
            Due.is("thought", x.thought(s, s), UNKNOWN);
            Due.is("waits", x.waits(s, 0, 0, 0, 0, 0, 0), UNKNOWN);
            Due.is("boy", x.boy(s), UNKNOWN);
            Due.is("parks", x.parks(s, 0, 0, 0), UNKNOWN);
            Due.is("rests", x.rests(s, 0), UNKNOWN);
            Due.is("turn", x.turn(s, 0), UNKNOWN);
            Due.is("allRests", x.allRests(s, 0), UNKNOWN);
            Due.is("lost", x.lost(s, 0), UNKNOWN);
            Due.is("mend", x.mend(s, 0, 0), UNKNOWN);
            Due.is("evening", x.evening(s, 0, 1), UNKNOWN);
        }
        for (int what = 0; what <= 4; what++) {
            Due.is("count(" + what + ")", x.count(what), 0);
        }
        Due.is("fault", x.fault(), NONE);
        Due.is("steer", x.steer(0, 0), UNKNOWN);
        Due.is("clear", x.clear(), 0);
        Due.is("goBack(0)", x.goBack(0), NOT);
        Due.is("goBack(1)", x.goBack(1), NOT);
        Due.is("seed", x.seed(0), 0);
        Due.is("an empty text as a rule", x.rule(), -11);
        Due.is("at its end", x.fault(), 0);
    }

    /** What is so in one object is not so in another. */
    private static void objectsApart() {
        LastPlace x = new LastPlace();
        LastPlace y = new LastPlace();
        Calls.prepare(x, Calls.State.ALL);
        LastPlace z = new LastPlace();
        for (LastPlace other : new LastPlace[] {y, z}) {
            for (int what = 0; what <= 4; what++) {
                Due.is("count(" + what + ")", other.count(what), 0);
            }
            Due.is("told", other.told(0, 0), UNKNOWN);
            Due.is("goBack", other.goBack(0), NOT);
            Due.is("seed", other.seed(5), 0);
        }
        Due.is("seed of the first", x.seed(0), 77);
    }

    /** "THE SEED becomes v (0 .. 2147483647): what it was." */
    private static void seedAtItsBounds() {
        LastPlace x = new LastPlace();
        Due.is("to 0", x.seed(0), 0);
        Due.is("to 1", x.seed(1), 0);
        Due.is("to the greatest", x.seed(GREATEST_INT), 1);
        for (int v : new int[] {-1, -2, LEAST_INT, LEAST_INT + 1}) {
            Due.is("to " + v, x.seed(v), OUTSIDE);
        }
        Due.is("it was the greatest still", x.seed(GREATEST_INT - 1), GREATEST_INT);
        Due.is("one less", x.seed(0), GREATEST_INT - 1);
    }

    /** "each DRAW it becomes it times 1103515245 and 12345, left over by 2 to the 31". */
    private static void leftOverBy2ToThe31() {
        LastPlace x = Due.with("doors 1 free 0 price 0;");
        Due.rule(x, "from 0");
        // the last two come to the least and to the greatest that can be left over
        int[][] steps = {{0, 12345}, {GREATEST_INT, 1043980748}, {12345, 1406932606}, {1, 1103527590}, {2088216195, 0},
            {230538014, GREATEST_INT}};
        for (int[] step : steps) {
            x.seed(step[0]);
            x.evening(0, 0, 1);
            Due.is("behind " + step[0], x.seed(0), step[1]);
        }
        x.seed(0);
        int[] row = {12345, 1406932606, 654583775, 1449466924, 229283573, 1109335178, 1051550459, 1293799192, 794471793, 551188310};
        for (int seed : row) {
            x.evening(0, 0, 1);
            Due.is("in a row", x.seed(seed), seed);
        }
    }

    /** "the DRAW is it / 65536, left over by 100"; "free, if the DRAW is below its CHANCE". */
    private static void drawsBelowTheChance() {
        // SEEDS whose DRAWS are 0, 29, 99 and, from the greatest that can be left over, 67
        int[][] draws = {{0, 0}, {GREATEST_INT, 29}, {80747, 99}, {75933315, 99}, {230538014, 67}, {2088216195, 0}, {12345, 68}};
        for (int[] draw : draws) {
            for (int c : new int[] {0, 1, 29, 30, 67, 68, 69, 99, 100}) {
                LastPlace x = Due.with("doors 1 free " + c + " price 3;walk 0;drive 1;garage 50;");
                Due.rule(x, "from 0");
                x.seed(draw[0]);
                Due.is("DRAW " + draw[1] + ", CHANCE " + c, x.evening(0, 0, 1), draw[1] < c ? 3 : 51);
            }
        }
    }

    /** "DOORS from 0 on, each as one comes to it": none behind the one that is taken, all ahead of it. */
    private static void aDrawForEachDoorThatOneComesTo() {
        int[] row = {0, 12345, 1406932606, 654583775, 1449466924, 229283573};
        for (int b = 0; b <= 5; b++) {
            LastPlace x = Due.with("doors 5 free 100 price 0;walk 1;drive 0;garage 50;");
            Due.rule(x, "from " + b);
            Due.is("from " + b, x.evening(0, 0, 1), b < 5 ? 5 - b : 50);
            Due.is("from " + b + ", THE SEED", x.seed(0), row[Math.min(b + 1, 5)]);
        }
        // its CHANCE by the DOOR ahead as it was drawn: 0 is free, 68 then is below 50 and 19, not below 50 less 19
        for (int alike : new int[] {18, 19, -19, -18}) {
            LastPlace x = Due.with("doors 2 free 50 price 0;alike " + alike + ";walk 1;drive 0;garage 50;");
            Due.rule(x, "from 1");
            Due.is("alike " + alike, x.evening(0, 0, 1), alike == 19 ? 1 : 50);
        }
        // 88 is not below 50; 17 is, behind a taken one, 50 less 32, but not 50 less 33
        for (int alike : new int[] {32, 33}) {
            LastPlace x = Due.with("doors 2 free 50 price 0;alike " + alike + ";walk 1;drive 0;garage 50;");
            Due.rule(x, "from 0");
            x.seed(1406932606);
            Due.is("alike " + alike, x.evening(0, 0, 1), alike == 32 ? 1 : 50);
        }
    }

    /** In another ROUND the DOORS are drawn once more, the first by its C alone. */
    private static void roundsDrawAgain() {
        // DRAWS 0, 68, 88, 17: free, taken; taken, free
        LastPlace x = Due.with("doors 2 free 50 price 0;walk 1;drive 1;late 0;round 7 times 1;garage 50;");
        Due.rule(x, "from 1 round 1");
        Due.rule(x, "from 1");
        Due.is("in ROUND 1", x.evening(0, 0, 1), 2 + 7 + 1 + 1);
        Due.is("THE SEED", x.seed(0), 1449466924);
        Due.is("no ROUND", x.evening(0, 1, 1), 2 + 50);
        Due.is("THE SEED", x.seed(0), 1406932606);
        // DOOR 0 of ROUND 1 by its C, not by the last DOOR: 88 is below 90, whatever alike is
        Due.street(x, 0, "doors 1 free 90 price 0;doors 1 free 0 price 0;alike -50;walk 1;drive 1;late 0;round 7 times 1;garage 50;");
        Due.rule(x, "from 0 seen 1 from 0 round 1");
        x.seed(1406932606);
        Due.is("88", x.evening(0, 2, 1), 2);
        Due.street(x, 0, "doors 1 free 68 price 0;alike -50;walk 1;drive 1;late 0;round 7 times 1;garage 50;");
        x.seed(12345);
        // 68 and 88 are not below 68, though one DOOR is taken ahead
        Due.is("68, then 88", x.evening(0, 2, 1), 1 + 7 + 1 + 50);
    }

    /** TAKING and the garage are those of the ROUND in which one comes to them. */
    private static void whatOneRoundCosts() {
        // DRAWS 0, 68, 88, 17: free, taken; taken, free; ROUND 1 is at the theatre at 9 and 2, so 9 late
        LastPlace x = Due.with("doors 2 free 50 price 0;walk 1;drive 1;late 3;curtain 2;round 7 times 1;garage 50;");
        Due.rule(x, "from 1 round 1");
        Due.rule(x, "from 2 round 1");
        Due.is("DOOR 1 of ROUND 1", x.evening(0, 0, 1), 2 + 7 + 1 + 1 + 27);
        Due.is("the garage of ROUND 1", x.evening(0, 1, 1), 2 + 7 + 2 + 50 + 27);
        Due.rule(x, "from 0");
        x.seed(0);
        Due.is("DOOR 0 of ROUND 0", x.evening(0, 2, 1), 2);
    }

    /** "how many free DOORS were passed": DRAWS 0, 68, 88, 17: one at DOOR 3, though three were passed in all. */
    private static void takenOnesAreNotPassed() {
        LastPlace x = Due.with("doors 4 free 50 price 0;walk 1;drive 0;garage 50;");
        for (int m = 1; m <= 3; m++) {
            Due.rule(x, "from 24 seen " + m + " from 0");
            x.seed(0);
            Due.is("seen " + m, x.evening(0, m - 1, 1), m == 1 ? 1 : 50);
        }
    }

    /** "EVENINGS by a RULE, n of them (1 .. 50): all that they cost together". */
    private static void oneAndFiftyEvenings() {
        String street = "doors 5 free 40 price 3;alike 10;walk 2;drive 1;late 5;curtain 6;round 3 times 2;garage 60;";
        LastPlace x = Due.with(street);
        LastPlace y = Due.with(street);
        Due.rule(x, "from 2 seen 1 from 0 round 2");
        Due.rule(y, "from 2 seen 1 from 0 round 2");
        int all = 0;
        for (int k = 0; k < 50; k++) {
            all += x.evening(0, 0, 1);
        }
        Due.is("fifty at once", y.evening(0, 0, 50), all);
        int seed = x.seed(3);
        Due.is("THE SEED behind them", y.seed(seed), seed);
        for (int n : new int[] {0, 51, -1, LEAST_INT, GREATEST_INT}) {
            Due.is(n + " EVENINGS", y.evening(0, 0, n), OUTSIDE);
            Due.is(n + " EVENINGS of no RULE", y.evening(0, 1, n), UNKNOWN);
            Due.is(n + " EVENINGS in no STREET", y.evening(1, 0, n), UNKNOWN);
        }
        Due.is("THE SEED is as it was", y.seed(0), seed);
        Due.street(x, 0, "doors 24 free 0 price 0;drive 99;late 99;curtain 0;round 60 times 3;garage 999;");
        Due.rule(x, "from 24 round 3");
        int dearest = 4 * 24 * 99 + 3 * 60 * 99 + 999 + 99 * (3 * 84 + 24);
        Due.is("the dearest", x.evening(0, 1, 1), dearest);
        Due.is("fifty of the dearest: thousandths of them pass an int", x.evening(0, 1, 50), 50 * dearest);
        Due.street(x, 0, "doors 1 free 100 price 0;walk 0;drive 0;");
        Due.is("for nothing", x.evening(0, 0, 50), 50 * 200);
        Due.is("the first DOOR, for nothing", Due.rule(x, "from 0") == 2 ? x.evening(0, 2, 50) : NONE, 0);
    }

    /** "How many: 0 RULES, 1 DOORS in THE ROW, 2 free ones of these, 3 CARS, 4 bytes of THE TEXT. OUTSIDE." */
    private static void countOfWhat() {
        LastPlace x = new LastPlace();
        Calls.prepare(x, Calls.State.ALL);
        int[] due = {4, 24, 8, 4, 240};
        for (int what = 0; what < 5; what++) {
            Due.is("count(" + what + ")", x.count(what), due[what]);
        }
        for (int what : new int[] {-1, 5, LEAST_INT, GREATEST_INT}) {
            Due.is("count(" + what + ")", x.count(what), OUTSIDE);
        }
    }

    /** "UNKNOWN, NOT: it was not kept." */
    private static void imagesThatWereNotKept() {
        for (int i = 0; i <= 1; i++) {
            LastPlace x = new LastPlace();
            x.saw(true);
            x.car(1, 1);
            x.seed(9);
            Due.is("goBack(0)", x.goBack(0), NOT);
            Due.is("goBack(1)", x.goBack(1), NOT);
            Due.is("nothing changed", x.count(1) * 100 + x.count(3) * 10 + x.seed(9), 119);
            Due.is("keep(" + i + ")", x.keep(i), 1);
            x.clear();
            Due.is("the other one was not kept", x.goBack(1 - i), NOT);
            Due.is("THE ROW is empty still", x.count(1), 0);
            Due.is("goBack(" + i + ")", x.goBack(i), 1);
            Due.is("THE ROW", x.count(1), 1);
            for (int none : new int[] {-1, 2, LEAST_INT, GREATEST_INT}) {
                Due.is("keep(" + none + ")", x.keep(none), UNKNOWN);
                Due.is("goBack(" + none + ")", x.goBack(none), UNKNOWN);
            }
            Due.is("the other one was not kept yet", x.goBack(1 - i), NOT);
        }
    }

    /** "IMAGES 0, 1 keep THE ROW, CARS, THE SEED": these, and nothing else. */
    private static void whatImagesKeep() {
        LastPlace x = Due.with("doors 4 free 50 price 0;drive 0;garage 90;");
        Due.rule(x, "from 1");
        x.keep(0);
        x.saw(true);
        x.saw(false);
        x.car(3, 2);
        x.car(5, 1);
        x.seed(42);
        x.keep(1);
        Due.text(x, "doors 7");
        Due.is("goBack(0)", x.goBack(0), 1);
        Due.is("THE ROW is empty", x.count(1) + x.count(2), 0);
        Due.is("no CARS", x.count(3), 0);
        Due.is("no CAR 0", x.parks(0, 15, 0, 0), UNKNOWN);
        Due.is("RULES", x.count(0), 1);
        Due.is("THE TEXT", x.count(4), 7);
        Due.is("THE SEED is 0", x.seed(8), 0);
        Due.is("another CAR 0", x.car(99, 24), 0);
        Due.is("THE TEXT goes on", Due.street(x, 1, " free 3 price 4;"), 7);
        Due.street(x, 0, "doors 4 free 50 price 1;drive 0;garage 90;see 3;");
        Due.is("a fault", x.fault(), 46);
        Due.is("goBack(1)", x.goBack(1), 1);
        Due.is("the fault stays", x.fault(), 46);
        Due.is("STREET 1 stays", x.told(1, 0), 7);
        Due.is("THE ROW", x.count(1) * 10 + x.count(2), 21);
        Due.is("CARS", x.count(3), 2);
        Due.is("THE SEED", x.seed(8), 42);
        Due.is("WALK of 0", x.parks(0, 15, 0, 1), 6000);
        Due.is("WALK of 1", x.parks(0, 15, 1, 1), 15000);
        Due.is("BAR of 0", x.steer(0, 0), 2);
        Due.is("BAR of 1", x.steer(1, 0), 1);
        Due.is("the first was free, the second not", x.judge(0, 0, true), NOT);
        // all there can be of them
        LastPlace y = new LastPlace();
        Calls.prepare(y, Calls.State.ALL);
        y.clear();
        y.steer(3, 24);
        y.goBack(0);
        Due.is("few", y.count(1) * 10 + y.count(3), 21);
        y.goBack(1);
        Due.is("24 DOORS", y.count(1), 24);
        Due.is("eight free", y.count(2), 8);
        Due.is("no 25th", y.saw(true), FULL);
        Due.is("four CARS", y.count(3), 4);
        Due.is("no fifth", y.car(0, 0), FULL);
        Due.is("BAR of 3", y.steer(3, 0), 3);
    }

    private static void imagesStayAsTheyWereKept() {
        LastPlace x = Due.with("doors 4 free 50 price 0;drive 0;garage 90;");
        x.car(3, 2);
        x.keep(0);
        for (int k = 0; k < 3; k++) {
            x.steer(0, 4);
            x.saw(true);
            x.car(9, 9);
            x.seed(5);
            x.turn(0, 15);
            Due.is("goBack", x.goBack(0), 1);
            Due.is("one CAR", x.count(3), 1);
            Due.is("its BAR", x.steer(0, 1), 2);
            Due.is("THE ROW", x.count(1), 0);
            Due.is("THE SEED", x.seed(6), 0);
        }
        // kept once more, it is what is so then
        Due.is("keep", x.keep(0), 1);
        x.steer(0, 7);
        x.goBack(0);
        Due.is("its BAR", x.steer(0, 0), 1);
        Due.is("THE SEED", x.seed(0), 6);
        // behind a keep nothing changed
        x.saw(true);
        x.keep(1);
        Due.is("as it was", x.count(1) * 10 + x.count(3), 11);
    }

    /** "An object is used for at most 512 calls after it has been made": the 512th is answered as the first. */
    private static void fiveHundredAndTwelveCalls() {
        LastPlace x = new LastPlace();
        for (int k = 1; k <= MOST_CALLS; k++) {
            Due.is("seed, call " + k, x.seed(k), k - 1);
        }
        LastPlace y = new LastPlace();
        String text = "doors1free1price1;walk12";
        for (int k = 0; k < MOST_CALLS / 4; k++) {
            Due.is("feed", Due.text(y, text), 24);
            Due.is("street", y.street(0), -11);
        }
        LastPlace z = new LastPlace();
        for (int k = 0; k < MOST_CALLS / 4; k++) {
            Due.text(z, "doors24free1price1;");
            Due.is("street", z.street(k % 3), 24);
        }
        LastPlace cars = Due.with("doors 24 free 50 price 0;drive 0;garage 999;");
        for (int c = 0; c < 4; c++) {
            cars.car(20 * c, 0);
        }
        int first = cars.mend(0, (1 << 24) - 1, 20);
        for (int k = 14; k <= MOST_CALLS; k++) {
            Due.is("mend, call " + k, cars.mend(0, (1 << 24) - 1, 20), first);
        }
        LastPlace ways = new LastPlace();
        int calls = Calls.prepare(ways, Calls.State.SOME);
        int mean = ways.mean(1, 0, 0);
        for (int k = calls + 2; k <= MOST_CALLS; k++) {
            Due.is("mean, call " + k, ways.mean(1, 0, 0), mean);
        }
    }
}
