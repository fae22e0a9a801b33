/** Promises 9 to 15: worth, goingOn, takes, start, end, bar, which. Costs are reckoned by hand beside them. */
public final class BestWayTest {
    private static final int NONE = LastPlace.NONE, UNKNOWN = LastPlace.UNKNOWN, OUTSIDE = LastPlace.OUTSIDE;
    private static final int NOT = LastPlace.NOT;

    public static void main(String[] args) {
        withoutSeeing();
        seeingOne();
        seeingTwo();
        rounds();
        bars();
        which();
        refusals();
        theMost();
        Due.close();
    }

    /** see 0: the DOOR ahead of the next one is the one at which one stands. */
    private static void withoutSeeing() {
        LastPlace x = Due.with("doors 2 free 50 price 0;alike 30;walk 3;drive 1;curtain 200;see 0;garage 20;");
        // TAKING: 6000, 3000; from the last DOOR on 1000 + 20000
        Due.is("worth at the last, taken", x.worth(0, 0, 1, 0), 21000);
        Due.is("worth at the last, free", x.worth(0, 0, 1, 1), 3000);
        // behind a free DOOR 80 of a hundred: 1000 + (80 * 3000 + 20 * 21000) / 100; behind a taken one 20
        Due.is("goingOn behind a free one", x.goingOn(0, 0, 0, 1), 7600);
        Due.is("goingOn behind a taken one", x.goingOn(0, 0, 0, 0), 18400);
        Due.is("worth at the first, free", x.worth(0, 0, 0, 1), 6000);
        Due.is("start", x.start(0, 0), (50 * 6000 + 50 * 18400) / 100);
        Due.is("takes", x.takes(0, 0, 0, 1), 1);
        Due.is("takes a taken one", x.takes(0, 0, 0, 0), NOT);
        Due.is("no second DOOR is seen", x.worth(0, 0, 0, 2), OUTSIDE);
    }

    private static void seeingOne() {
        LastPlace x = Due.with("doors 3 free 33 price 1;alike 0;walk 2;drive 1;curtain 200;see 1;garage 50;");
        // TAKING 7000, 5000, 3000; from the last on 51000
        Due.is("goingOn(1, 0)", x.goingOn(0, 0, 1, 0), 1000 + 51000);
        Due.is("goingOn(1, 2)", x.goingOn(0, 0, 1, 2), 1000 + 3000);
        Due.is("worth(1, 1)", x.worth(0, 0, 1, 1), 5000);
        Due.is("worth(1, 3)", x.worth(0, 0, 1, 3), 4000);
        // door 1 taken: 33 * 4000 + 67 * 52000; free: 33 * 4000 + 67 * 5000
        int overTaken = 1000 + (33 * 4000 + 67 * 52000) / 100;
        int overFree = 1000 + (33 * 4000 + 67 * 5000) / 100;
        Due.is("goingOn(0, 1)", x.goingOn(0, 0, 0, 1), overTaken);
        Due.is("goingOn(0, 3)", x.goingOn(0, 0, 0, 3), overFree);
        Due.is("takes(0, 1)", x.takes(0, 0, 0, 1), 1);
        Due.is("takes(0, 3)", x.takes(0, 0, 0, 3), 0);
        int free = (33 * overFree + 67 * 7000) / 100;
        int taken = (33 * overFree + 67 * overTaken) / 100;
        Due.is("start", x.start(0, 0), (33 * free + 67 * taken) / 100);
        Due.is("no sight over the end", x.worth(0, 0, 2, 2), OUTSIDE);
        Due.is("the last one", x.worth(0, 0, 2, 1), 3000);
        // no more than going on: it is taken
        Due.street(x, 1, "doors 2 free 50 price 0;walk 1;drive 1;see 1;");
        Due.is("TAKING 2000, GOING ON 2000", x.goingOn(1, 0, 0, 3), x.taking(1, 0, 0));
        Due.is("of like ones it is taken", x.takes(1, 0, 0, 3), 1);
    }

    private static void seeingTwo() {
        LastPlace x = Due.with("doors 2 free 50 price 0;walk 5;drive 2;see 2;garage 30;");
        Due.is("as far as there are", x.worth(0, 0, 0, 3), 2000 + 5000);
        Due.is("no third", x.worth(0, 0, 0, 4), OUTSIDE);
        Due.is("start over two DOORS", x.start(0, 0),
                (50 * ((50 * 7000 + 50 * 10000) / 100) + 50 * ((50 * 7000 + 50 * 34000) / 100)) / 100);
        Due.street(x, 1, "doors 3 free 10 price 0;alike 20;walk 5;drive 2;see 2;garage 30;");
        // START: DOOR 1 by DOOR 0, DOOR 2 by DOOR 1; C 10 and 20 is 30, C 10 less 20 is 0
        int allTaken = 36000;
        int lastFree = 4000 + 5000;
        int middleFree = 2000 + 10000;
        int onlyFirst = 15000;
        int free1 = (30 * lastFree + 70 * middleFree) / 100;
        int free0 = (30 * free1 + 70 * onlyFirst) / 100;
        Due.is("start by neighbours", x.start(1, 0), (10 * free0 + 90 * allTaken) / 100);
        // a SIGHT that has no CHANCE is answered, too: a taken DOOR, then a free one
        Due.is("a sight without a chance", x.worth(1, 0, 0, 2), middleFree);
    }

    private static void rounds() {
        LastPlace x = Due.with("doors 1 free 50 price 0;walk 1;drive 1;late 5;curtain 200;see 0;round 4 times 1;garage 100;");
        // ROUND 1: TAKING 1000, else 1000 + 100000
        Due.is("start(1)", x.start(0, 1), 51000);
        Due.is("end(1)", x.end(0, 1, 0), 100000);
        Due.is("end(1) is the garage", x.end(0, 1, 1), 0);
        Due.is("end(0)", x.end(0, 0, 0), 4000 + 51000);
        Due.is("end(0) is ROUND", x.end(0, 0, 1), 1);
        Due.is("start(0)", x.start(0, 0), (50 * 1000 + 50 * 56000) / 100);
        Due.is("goingOn(0)", x.goingOn(0, 0, 0, 0), 56000);
        // being late: ROUND 1 ends at 6, that is 5 over 1
        Due.street(x, 1, "doors 1 free 50 price 0;walk 1;drive 1;late 5;curtain 1;see 0;round 4 times 1;garage 100;");
        Due.is("end(1) late", x.end(1, 1, 0), 125000);
        Due.is("worth(1) late", x.worth(1, 1, 0, 1), 26000);
        Due.is("end(0) at the curtain", x.end(1, 0, 0), 4000 + (50 * 26000 + 50 * 126000) / 100);
        // like the garage: not ROUND
        Due.street(x, 2, "doors 1 free 100 price 8;walk 1;drive 1;curtain 200;see 0;round 1 times 1;garage 10;");
        Due.is("ROUND costs 10000 too", x.start(2, 1) + 1000, x.end(2, 0, 0));
        Due.is("of like ones the garage", x.end(2, 0, 1), 0);
        Due.street(x, 2, "doors 1 free 100 price 7;walk 1;drive 1;curtain 200;see 0;round 1 times 1;garage 10;");
        Due.is("one less: ROUND", x.end(2, 0, 1), 1);
        Due.is("9000", x.end(2, 0, 0), 9000);
    }

    private static void bars() {
        LastPlace x = Due.with("doors 6 free 90 price 0;walk 5;drive 1;see 0;curtain 200;garage 100;");
        int bar = x.bar(0, 0);
        Due.is("a bar within the street", bar > 0 && bar < 6 ? 1 : 0, 1);
        for (int i = 0; i < 6; i++) {
            Due.is("takes as the bar tells, DOOR " + i, x.takes(0, 0, i, 1), i >= bar ? 1 : 0);
        }
        // a garage for nothing: no DOOR is taken, the bar is n
        Due.street(x, 1, "doors 3 free 50 price 50;drive 0;see 2;garage 0;");
        Due.is("none is taken", x.bar(1, 0), 3);
        // seeing the next one: taken with one SIGHT, not with another
        Due.street(x, 1, "doors 3 free 33 price 1;walk 2;drive 1;see 1;garage 50;");
        Due.is("no bar", x.bar(1, 0), NONE);
        // cheap ahead, dear behind: taken ahead, not behind
        Due.street(x, 1, "doors 1 free 50 price 0;doors 1 free 50 price 500;walk 1;drive 1;see 0;garage 100;");
        Due.is("taken ahead only", x.takes(1, 0, 0, 1) * 10 + x.takes(1, 0, 1, 1), 10);
        Due.is("no bar either", x.bar(1, 0), NONE);
        Due.street(x, 1, "doors 2 free 0 price 0;walk 1;drive 1;see 1;garage 100;");
        // DOOR 1 is never free, but its SIGHT counts: with it seen free DOOR 0 is taken (2000 and 2000)
        Due.is("bar with sights without a chance", x.bar(1, 0), 0);
        Due.street(x, 1, "doors 2 free 0 price 0;walk 2;drive 1;see 1;garage 100;");
        Due.is("no bar by a sight without a chance", x.bar(1, 0), NONE);
        // by ROUND: with another ROUND ahead one is choosy
        Due.street(x, 1, "doors 1 free 99 price 30;doors 1 free 99 price 0;walk 1;drive 1;see 0;round 0 times 1;garage 60;");
        Due.is("bar in ROUND 0", x.bar(1, 0), 1);
        Due.is("bar in ROUND 1", x.bar(1, 1), 1);
        Due.is("bar(1, 2)", x.bar(1, 2), OUTSIDE);
        Due.is("bar(1, -1)", x.bar(1, -1), OUTSIDE);
        Due.is("bar(2, 0)", x.bar(2, 0), UNKNOWN);
        Due.is("bar(2, 9)", x.bar(2, 9), UNKNOWN);
    }

    private static void which() {
        LastPlace x = Due.with("doors 3 free 50 price 5;");
        Due.street(x, 1, "doors 3 free 50 price 4;");
        Due.street(x, 2, "doors 3 free 50 price 5;");
        Due.is("which(0, 1)", x.which(0, 1), 1);
        Due.is("which(1, 0)", x.which(1, 0), 1);
        Due.is("which(0, 2)", x.which(0, 2), 0);
        Due.is("which(2, 0)", x.which(2, 0), 2);
        Due.is("which(2, 2)", x.which(2, 2), 2);
        Due.is("which(3, 0)", x.which(3, 0), UNKNOWN);
        Due.is("which(0, -1)", x.which(0, -1), UNKNOWN);
    }

    private static void refusals() {
        LastPlace x = Due.with("doors 4 free 50 price 5;see 2;round 1 times 2;");
        int[][] wrong = {
            {1, 0, 0, 0, UNKNOWN}, {-1, 0, 0, 0, UNKNOWN}, {3, 0, 0, 0, UNKNOWN}, {0, 0, 4, 0, UNKNOWN}, {0, 0, -1, 0, UNKNOWN},
            {0, 3, 4, 9, UNKNOWN}, {0, 3, 0, 0, OUTSIDE}, {0, -1, 0, 0, OUTSIDE}, {0, 0, 0, 8, OUTSIDE}, {0, 0, 0, -1, OUTSIDE},
            {0, 0, 2, 4, OUTSIDE}, {0, 0, 3, 2, OUTSIDE}, {0, 2, 1, Integer.MIN_VALUE, OUTSIDE}, {0, 3, 0, 0, OUTSIDE}};
        for (int[] w : wrong) {
            String at = "(" + w[0] + ", " + w[1] + ", " + w[2] + ", " + w[3] + ")";
            Due.is("worth" + at, x.worth(w[0], w[1], w[2], w[3]), w[4]);
            Due.is("goingOn" + at, x.goingOn(w[0], w[1], w[2], w[3]), w[4]);
            Due.is("takes" + at, x.takes(w[0], w[1], w[2], w[3]), w[4]);
            Due.is("waits" + at, x.waits(w[0], w[1], w[2], w[3], 1, 1, 0), w[4]);
        }
        Due.is("takes, not free", x.takes(0, 2, 0, 6), NOT);
        Due.is("start(1, 0)", x.start(1, 0), UNKNOWN);
        Due.is("start(1, 3)", x.start(1, 3), UNKNOWN);
        Due.is("start(0, 3)", x.start(0, 3), OUTSIDE);
        Due.is("start(0, -1)", x.start(0, -1), OUTSIDE);
        Due.is("end(1, 0, 0)", x.end(1, 0, 0), UNKNOWN);
        Due.is("end(1, 0, 2)", x.end(1, 0, 2), UNKNOWN);
        Due.is("end(0, 3, 0)", x.end(0, 3, 0), OUTSIDE);
        Due.is("end(0, 0, 2)", x.end(0, 0, 2), OUTSIDE);
        Due.is("end(0, 0, -1)", x.end(0, 0, -1), OUTSIDE);
        // a fault leaves the best way as it was
        int start = x.start(0, 0);
        Due.street(x, 0, "doors 4 free 50 price 6;see 2;round 1 times 2");
        Due.is("start as it was", x.start(0, 0), start);
    }

    /** The dearest street there is: a hundred times its costs are more than an int. */
    private static void theMost() {
        LastPlace x = Due.with("doors 24 free 1 price 999;alike -50;walk 99;drive 99;late 99;curtain 0;see 2;round 60 times 3;garage 999;");
        PlainModel y = new PlainModel();
        String text = "doors 24 free 1 price 999;alike -50;walk 99;drive 99;late 99;curtain 0;see 2;round 60 times 3;garage 999;";
        for (int k = 0; k < text.length(); k++) {
            y.feed(1, text.charAt(k));
        }
        y.street(0);
        for (int r = 0; r <= 3; r++) {
            Due.is("start of the most", x.start(0, r), y.start(0, r));
            for (int i = 0; i < 24; i++) {
                for (int sight = 0; sight < 8; sight++) {
                    Due.is("worth of the most", x.worth(0, r, i, sight), y.worth(0, r, i, sight));
                    Due.is("goingOn of the most", x.goingOn(0, r, i, sight), y.goingOn(0, r, i, sight));
                }
            }
        }
    }
}
