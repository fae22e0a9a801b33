/** The edges of part 2 of the document, sentence by sentence: SIGHT, WORTH, GOING ON, THE END, START, A BAR. */
public final class WayEdgesTest {
    private static final int NONE = LastPlace.NONE, UNKNOWN = LastPlace.UNKNOWN, OUTSIDE = LastPlace.OUTSIDE;
    private static final int NOT = LastPlace.NOT;
    private static final int LEAST_INT = Integer.MIN_VALUE, GREATEST_INT = Integer.MAX_VALUE;

    public static void main(String[] args) {
        sightsAsFarAsThereAre();
        theWholeOfAStreet();
        streetsShorterThanSight();
        takenIfNoMore();
        goingOnFromTheLastDoor();
        theEndInTheLastRound();
        theEndIfRoundIsLess();
        cutEach();
        startIsCutAtEachDoor();
        theDoorAheadAsSeen();
        barsAt0AndAtN();
        barsWithin();
        noBar();
        barsByRound();
        takenByRound();
        sightsWithoutChance();
        whichOfTwo();
        whichByStart();
        Due.close();
    }

    /** "one sees whether it and the next S DOORS (as far as there are) are free"; "a SIGHT of more than there is to see". */
    private static void sightsAsFarAsThereAre() {
        for (int see = 0; see <= 2; see++) {
            for (int n = 1; n <= 24; n++) {
                LastPlace x = Due.with("doors " + n + " free 50 price 5;see " + see + ";");
                for (int i = Math.max(0, n - 4); i < n; i++) {
                    int most = (1 << Math.min(see + 1, n - i)) - 1;
                    Due.is("all that is seen", x.worth(0, 0, i, most) > 0 ? 1 : 0, 1);
                    Due.is("nothing free", x.goingOn(0, 0, i, 0) > 0 ? 1 : 0, 1);
                    Due.is("all that is seen", x.takes(0, 0, i, most) >= 0 ? 1 : 0, 1);
                    for (int sight : new int[] {most + 1, 2 * most + 1, 2 * most + 2, -1, LEAST_INT, LEAST_INT | 1, GREATEST_INT}) {
                        String at = "(0, 0, " + i + ", " + sight + ") of " + n + " DOORS, see " + see;
                        Due.is("worth" + at, x.worth(0, 0, i, sight), OUTSIDE);
                        Due.is("goingOn" + at, x.goingOn(0, 0, i, sight), OUTSIDE);
                        Due.is("takes" + at, x.takes(0, 0, i, sight), OUTSIDE);
                        Due.is("waits" + at, x.waits(0, 0, i, sight, 0, 0, 0), OUTSIDE);
                    }
                }
                Due.is("no DOOR", x.worth(0, 0, n, 0), UNKNOWN);
                Due.is("no DOOR", x.goingOn(0, 0, n, 0), UNKNOWN);
                Due.is("no DOOR", x.takes(0, 0, n, 0), UNKNOWN);
            }
        }
    }

    /** Each SIGHT of three DOORS with see 2: no DOOR more comes into sight, so nothing is left to CHANCE but at START. */
    private static void theWholeOfAStreet() {
        LastPlace x = Due.with("doors 3 free 50 price 0;walk 10;drive 1;see 2;garage 100;");
        // TAKING 30000, 20000, 10000
        int[][] onwards = {{103000, 103000, 21000, 21000, 12000, 12000, 12000, 12000}, {102000, 102000, 11000, 11000}, {101000, 101000}};
        int[][] worths = {{103000, 30000, 21000, 21000, 12000, 12000, 12000, 12000}, {102000, 20000, 11000, 11000}, {101000, 10000}};
        int[][] takes = {{NOT, 1, NOT, 0, NOT, 0, NOT, 0}, {NOT, 1, NOT, 0}, {NOT, 1}};
        for (int i = 0; i < 3; i++) {
            for (int sight = 0; sight < worths[i].length; sight++) {
                String at = "(0, 0, " + i + ", " + sight + ")";
                Due.is("goingOn" + at, x.goingOn(0, 0, i, sight), onwards[i][sight]);
                Due.is("worth" + at, x.worth(0, 0, i, sight), worths[i][sight]);
                Due.is("takes" + at, x.takes(0, 0, i, sight), takes[i][sight]);
            }
        }
        // DOOR 2 by halves: 57500, 21000, 16500, 16500; DOOR 1: 37000, 18750
        Due.is("start", x.start(0, 0), 27875);
    }

    /** "START of r: DOOR by DOOR, 0 to S (as far as there are)"; "DOOR 0 by its C". */
    private static void streetsShorterThanSight() {
        for (int see = 0; see <= 2; see++) {
            LastPlace x = Due.with("doors 1 free 30 price 2;alike 50;walk 1;drive 1;see " + see + ";garage 10;");
            Due.is("one DOOR, see " + see, x.start(0, 0), (30 * 3000 + 70 * 11000) / 100);
            Due.is("one DOOR, free", x.worth(0, 0, 0, 1), 3000);
            Due.is("one DOOR, taken", x.worth(0, 0, 0, 0), 11000);
        }
        for (int see = 1; see <= 2; see++) {
            LastPlace x = Due.with("doors 2 free 30 price 2;alike 20;walk 1;drive 1;see " + see + ";garage 10;");
            // TAKING 4000, 3000; DOOR 1: 50 behind a free one, 10 behind a taken one
            int free = (50 * 4000 + 50 * 4000) / 100;
            int taken = (10 * 4000 + 90 * 12000) / 100;
            Due.is("two DOORS, see " + see, x.start(0, 0), (30 * free + 70 * taken) / 100);
        }
        LastPlace never = Due.with("doors 1 free 0 price 0;walk 0;drive 0;garage 9;");
        Due.is("never free", never.start(0, 0), 9000);
        Due.street(never, 0, "doors 1 free 100 price 3;walk 0;drive 0;garage 9;");
        Due.is("always free", never.start(0, 0), 3000);
    }

    /** "if bit 0 is there and TAKING it is no more, TAKING it". */
    private static void takenIfNoMore() {
        int[][] cases = {{9, 1}, {10, 1}, {11, 0}};
        for (int[] c : cases) {
            LastPlace x = Due.with("doors 1 free 50 price " + c[0] + ";walk 0;drive 3;garage 7;");
            Due.is("price " + c[0], x.takes(0, 0, 0, 1), c[1]);
            Due.is("worth at " + c[0], x.worth(0, 0, 0, 1), 1000 * Math.min(c[0], 10));
            Due.is("bit 0 is not there", x.worth(0, 0, 0, 0), 10000);
            Due.is("it is not free", x.takes(0, 0, 0, 0), NOT);
        }
    }

    /** "GOING ON: D times 1000, and from the last DOOR on THE END of r": whatever is seen there, in each ROUND. */
    private static void goingOnFromTheLastDoor() {
        LastPlace x = Due.with("doors 4 free 0 price 900;walk 9;drive 2;late 3;curtain 5;see 2;round 6 times 3;garage 40;");
        for (int r = 0; r <= 3; r++) {
            Due.is("taken, ROUND " + r, x.goingOn(0, r, 3, 0), 2000 + x.end(0, r, 0));
            Due.is("free, ROUND " + r, x.goingOn(0, r, 3, 1), 2000 + x.end(0, r, 0));
            Due.is("the DOOR ahead, ROUND " + r, x.goingOn(0, r, 2, 0), 4000 + x.end(0, r, 0));
            // ROUND r comes to the end at 10 r and 4
            Due.is("THE END of " + r, x.end(0, r, 0), (40 + 3 * Math.max(0, 10 * r - 1)) * 1000);
            Due.is("it is the garage", x.end(0, r, 1), 0);
        }
        LastPlace y = Due.with("doors 1 free 0 price 0;drive 0;garage 0;");
        Due.is("nothing costs anything", y.goingOn(0, 0, 0, 0), 0);
    }

    /** "if r is less than K": in the last ROUND it is the garage, however dear. */
    private static void theEndInTheLastRound() {
        for (int times = 0; times <= 3; times++) {
            LastPlace x = Due.with("doors 1 free 100 price 0;walk 1;drive 1;late 0;see 0;round 4 times " + times + ";garage 999;");
            for (int r = 0; r <= times; r++) {
                Due.is("ROUND " + r + " of " + times, x.end(0, r, 1), r < times ? 1 : 0);
                Due.is("what it costs", x.end(0, r, 0), r < times ? 5000 : 999000);
            }
            for (int r : new int[] {-1, times + 1, LEAST_INT, GREATEST_INT}) {
                Due.is("end of " + r, x.end(0, r, 0), OUTSIDE);
                Due.is("start of " + r, x.start(0, r), OUTSIDE);
                Due.is("bar of " + r, x.bar(0, r), OUTSIDE);
                Due.is("worth of " + r, x.worth(0, r, 0, 1), OUTSIDE);
                Due.is("goingOn of " + r, x.goingOn(0, r, 0, 1), OUTSIDE);
                Due.is("takes of " + r, x.takes(0, r, 0, 1), OUTSIDE);
            }
        }
    }

    /** "and this is less": of like ones the garage. ROUND: D times R, and START: 3 * 4 and 8. */
    private static void theEndIfRoundIsLess() {
        int[][] cases = {{19, 0, 19000}, {20, 0, 20000}, {21, 1, 20000}};
        for (int[] c : cases) {
            LastPlace x = Due.with("doors 1 free 100 price 8;walk 0;drive 3;see 0;round 4 times 1;garage " + c[0] + ";");
            Due.is("garage " + c[0], x.end(0, 0, 1), c[1]);
            Due.is("what it costs", x.end(0, 0, 0), c[2]);
        }
        LastPlace y = Due.with("doors 1 free 100 price 8;walk 0;drive 0;see 0;round 60 times 1;garage 9;curtain 200;");
        Due.is("driving costs nothing", y.end(0, 0, 0), 8000);
        Due.street(y, 0, "doors 1 free 100 price 8;walk 0;drive 99;see 0;round 0 times 1;garage 9;");
        Due.is("round of 0", y.end(0, 0, 0), 8000);
    }

    /** "/ cuts towards 0"; "cut each": five halves cut one by one come to less than all at once. */
    private static void cutEach() {
        for (int see = 0; see <= 2; see++) {
            LastPlace x = Due.with("doors 5 free 33 price 0;walk 0;drive 0;see " + see + ";garage 1;");
            // 1000, 670, 448 (.9), 300 (.16), 201 (.0), 134 (.67)
            Due.is("START, see " + see, x.start(0, 0), 134);
            Due.is("THE BOY", x.boy(0), 134);
            Due.rule(x, "from 0");
            Due.is("MEAN", x.mean(0, 0, 0), 134);
            // 670000, 448900, 300763, 201511 (.21), 135012 (.37)
            Due.is("GARAGE", x.mean(0, 0, 2), 135012);
        }
        LastPlace y = Due.with("doors 5 free 33 price 0;walk 0;drive 0;see 0;garage 1;");
        int[] onwards = {201, 300, 448, 670, 1000};
        for (int i = 0; i < 5; i++) {
            Due.is("GOING ON at " + i, y.goingOn(0, 0, i, 0), onwards[i]);
        }
    }

    /** START: "each as in ON, cut each": from the last DOOR seen back, not once for all that may be seen. */
    private static void startIsCutAtEachDoor() {
        LastPlace x = Due.with("doors 2 free 33 price 0;walk 0;drive 0;see 1;garage 1;");
        // nothing free 1000, else 0: 670, then 448 (.9); behind a free DOOR 0 nothing is left
        Due.is("two DOORS", x.start(0, 0), 448);
        Due.street(x, 0, "doors 3 free 34 price 0;walk 0;drive 0;see 2;garage 1;");
        // 660, 435 (.6), 287 (.1); once for all it were 287 (.496)
        Due.is("three DOORS", x.start(0, 0), 287);
        Due.street(x, 0, "doors 3 free 1 price 0;walk 0;drive 0;see 2;garage 1;");
        // 990, 980 (.1), 970 (.2)
        Due.is("three DOORS, seldom free", x.start(0, 0), 970);
        Due.street(x, 0, "doors 3 free 13 price 0;walk 0;drive 0;see 2;garage 1;");
        // 870, 756 (.9), 657 (.72); once for all it were 658 (.503)
        Due.is("three DOORS, cut twice", x.start(0, 0), 657);
        Due.street(x, 0, "doors 2 free 7 price 0;alike -6;walk 0;drive 0;see 1;garage 1;");
        // behind a free one 1 of a hundred, but that one is free; behind a taken one 13: 870, then 809 (.1)
        Due.is("two DOORS apart", x.start(0, 0), 809);
    }

    /** "its CHANCE by the DOOR ahead of it as seen": bit S of the SIGHT, also where that is bit 0. */
    private static void theDoorAheadAsSeen() {
        for (int see = 0; see <= 2; see++) {
            // DOORS but the last are too dear; the last is free with 100 behind a free one, with 0 behind a taken one
            LastPlace x = Due.with("doors " + (see + 1) + " free 50 price 900;doors 1 free 50 price 0;alike 50;walk 0;drive 0;see " + see
                    + ";garage 100;");
            for (int sight = 0; sight < 2 << see; sight++) {
                Due.is("see " + see + ", SIGHT " + sight, x.goingOn(0, 0, 0, sight), (sight >> see & 1) == 1 ? 0 : 100000);
            }
        }
    }

    /** "A BAR: the least DOOR b so that ..." at 0 and at n, for one DOOR and for 24. */
    private static void barsAt0AndAtN() {
        for (int n : new int[] {1, 2, 24}) {
            for (int see = 0; see <= 2; see++) {
                LastPlace x = Due.with("doors " + n + " free 50 price 10;walk 0;drive 0;see " + see + ";garage 10;");
                Due.is("like ones are taken, so at 0", x.bar(0, 0), 0);
                Due.street(x, 0, "doors " + n + " free 50 price 10;walk 0;drive 0;see " + see + ";garage 9;");
                Due.is("none is taken, so at n", x.bar(0, 0), n);
            }
        }
    }

    private static void barsWithin() {
        for (int bar = 1; bar < 24; bar++) {
            LastPlace x = Due.with("doors " + bar + " free 50 price 90;doors " + (24 - bar) + " free 50 price 0;walk 0;drive 0;see 2;garage 80;");
            Due.is("from the first for nothing on", x.bar(0, 0), bar);
        }
    }

    /** "NONE: there is no such b". */
    private static void noBar() {
        // taken, then not: at the first DOOR, at the last one
        LastPlace x = Due.with("doors 1 free 50 price 0;doors 1 free 50 price 90;walk 0;drive 0;see 0;garage 80;");
        Due.is("only the first is taken", x.bar(0, 0), NONE);
        Due.street(x, 0, "doors 1 free 50 price 90;doors 1 free 50 price 0;doors 1 free 50 price 90;walk 0;drive 0;see 0;garage 80;");
        Due.is("only the middle one is taken", x.bar(0, 0), NONE);
        // with one SIGHT and not with another, at the first DOOR and at one within
        Due.street(x, 0, "doors 2 free 50 price 0;walk 2;drive 1;see 1;garage 80;");
        Due.is("the first one, if the next is not free", x.takes(0, 0, 0, 1) * 10 + x.takes(0, 0, 0, 3), 10);
        Due.is("by what is seen", x.bar(0, 0), NONE);
        Due.street(x, 0, "doors 1 free 50 price 99;doors 2 free 50 price 0;walk 2;drive 1;see 1;garage 80;");
        Due.is("by what is seen at DOOR 1", x.bar(0, 0), NONE);
        // taken only if the next one (too dear) is free, as then the last one is not
        Due.street(x, 0, "doors 1 free 50 price 50;doors 1 free 50 price 900;doors 1 free 50 price 0;alike -50;walk 0;drive 0;see 1;garage 100;");
        Due.is("not by DOOR 0 alone", x.takes(0, 0, 0, 1), 0);
        Due.is("by DOORS 0 and 1", x.takes(0, 0, 0, 3), 1);
        Due.is("at no DOOR ahead of b with any SIGHT", x.bar(0, 0), NONE);
        // likewise only if the one behind the next is free
        Due.street(x, 0, "doors 1 free 50 price 50;doors 2 free 50 price 900;doors 1 free 50 price 0;alike -50;walk 0;drive 0;see 2;garage 100;");
        Due.is("not by DOOR 0 alone", x.takes(0, 0, 0, 1), 0);
        Due.is("not by DOORS 0 and 1", x.takes(0, 0, 0, 3), 0);
        Due.is("by DOORS 0 and 2", x.takes(0, 0, 0, 5), 1);
        Due.is("at no DOOR ahead of b with any SIGHT", x.bar(0, 0), NONE);
    }

    private static void barsByRound() {
        // ROUND 1: 40 at DOOR 0, or 50 by CHANCE; ROUND 0: 20 by CHANCE, as one may come back to DOOR 0
        LastPlace x = Due.with("doors 1 free 100 price 40;doors 1 free 50 price 0;walk 0;drive 0;see 0;round 0 times 1;garage 100;");
        Due.is("ROUND 1", x.bar(0, 1), 0);
        Due.is("ROUND 0", x.bar(0, 0), 1);
        Due.is("START of 1", x.start(0, 1), 40000);
        Due.is("START of 0", x.start(0, 0), 20000);
    }

    /** The best way of a ROUND: in the last one DOOR 0 is taken, ahead of it not, as one may come back to it. */
    private static void takenByRound() {
        LastPlace x = Due.with("doors 1 free 100 price 40;doors 1 free 50 price 0;walk 0;drive 0;see 0;round 0 times 2;garage 100;");
        int[] takes = {0, 0, 1};
        int[] worths = {10000, 20000, 40000};
        int[] onwards = {10000, 20000, 50000};
        for (int r = 0; r <= 2; r++) {
            Due.is("takes in ROUND " + r, x.takes(0, r, 0, 1), takes[r]);
            Due.is("worth in ROUND " + r, x.worth(0, r, 0, 1), worths[r]);
            Due.is("goingOn in ROUND " + r, x.goingOn(0, r, 0, 1), onwards[r]);
            Due.is("start of ROUND " + r, x.start(0, r), worths[r]);
            Due.is("whether one goes ROUND from " + r, x.end(0, r, 1), r < 2 ? 1 : 0);
            Due.is("THE END of " + r, x.end(0, r, 0), r < 2 ? worths[r + 1] : 100000);
        }
    }

    /** "SIGHTS of DOORS that there are; also such that have no CHANCE". */
    private static void sightsWithoutChance() {
        // DOOR 1 is never free behind a free one, yet a SIGHT may show both
        LastPlace x = Due.with("doors 2 free 50 price 0;alike -50;walk 2;drive 1;see 1;garage 80;");
        Due.is("CHANCE", x.chance(0, 1, true), 0);
        Due.is("WORTH of it", x.worth(0, 0, 0, 3), 3000);
        Due.is("it is not taken then", x.takes(0, 0, 0, 3), 0);
        Due.is("so no bar", x.bar(0, 0), NONE);
        // at the last DOORS no SIGHT shows a DOOR that is not there
        Due.street(x, 0, "doors 2 free 0 price 0;walk 1;drive 2;see 2;garage 80;");
        Due.is("a bar though none is ever free", x.bar(0, 0), 0);
    }

    /** "Of two STREETS that with the less START of ROUND 0 (of like ones a)." */
    private static void whichOfTwo() {
        LastPlace x = Due.with("doors 1 free 100 price 5;walk 0;");
        Due.street(x, 1, "doors 1 free 100 price 4;walk 1;");
        Due.street(x, 2, "doors 1 free 100 price 4;walk 0;");
        int[][] due = {{0, 0, 2}, {1, 1, 2}, {2, 2, 2}};
        for (int a = 0; a < 3; a++) {
            for (int b = 0; b < 3; b++) {
                Due.is("which(" + a + ", " + b + ")", x.which(a, b), due[a][b]);
            }
            for (int none : new int[] {-1, 3, LEAST_INT, GREATEST_INT}) {
                Due.is("which(" + a + ", " + none + ")", x.which(a, none), UNKNOWN);
                Due.is("which(" + none + ", " + a + ")", x.which(none, a), UNKNOWN);
            }
        }
        // ROUND 0 counts, not a later one: late in ROUND 1 alone
        LastPlace y = Due.with("doors 1 free 0 price 0;drive 0;curtain 1;late 9;round 9 times 1;garage 10;");
        Due.street(y, 1, "doors 1 free 0 price 0;drive 0;curtain 200;late 9;round 9 times 1;garage 11;");
        Due.is("START of 1 is more", y.start(0, 1) > y.start(1, 1) ? 1 : 0, 1);
        Due.is("START of 0 is less", y.which(1, 0), 0);
    }

    /** "the less START of ROUND 0": not by THE BOY, nor by another ROUND, nor by the garage. */
    private static void whichByStart() {
        LastPlace x = Due.with("doors 1 free 100 price 10;walk 0;");
        Due.street(x, 1, "doors 1 free 100 price 12;doors 1 free 50 price 0;walk 0;drive 0;see 0;garage 100;");
        Due.is("START 10", x.start(0, 0), 10000);
        Due.is("START 12", x.start(1, 0), 12000);
        Due.is("THE BOY would have 6 there", x.boy(1), 6000);
        Due.is("which", x.which(0, 1) * 10 + x.which(1, 0), 0);
        Due.street(x, 2, "doors 1 free 100 price 9;walk 0;late 9;curtain 1;round 5 times 1;garage 999;");
        Due.is("ROUND 1 is dearer", x.start(2, 1) > 12000 ? 1 : 0, 1);
        Due.is("by ROUND 0", x.which(0, 2) * 10 + x.which(2, 0), 22);
    }
}
