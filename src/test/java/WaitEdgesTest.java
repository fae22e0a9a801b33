/** The edges of part 4 of the document, sentence by sentence: WAITING and THE BOY. */
public final class WaitEdgesTest {
    private static final int UNKNOWN = LastPlace.UNKNOWN, OUTSIDE = LastPlace.OUTSIDE, NOT = LastPlace.NOT;
    private static final int LEAST_INT = Integer.MIN_VALUE, GREATEST_INT = Integer.MAX_VALUE;

    public static void main(String[] args) {
        qAt0AndAt100();
        uAt0AndAt99();
        mFrom0To20();
        theLeastSuch();
        inEachRoundAndSight();
        refusals();
        boyAtTheEdges();
        Due.close();
    }

    private static void wait(LastPlace x, int q, int u, int m, int cost) {
        Due.is("q " + q + ", u " + u + ": m", x.waits(0, 0, 0, 0, q, u, 0), m);
        Due.is("q " + q + ", u " + u + ": W(m)", x.waits(0, 0, 0, 0, q, u, 1), cost);
    }

    /** GOING ON is 61000, TAKING 10000. */
    private static LastPlace one() {
        return Due.with("doors 1 free 50 price 0;walk 10;drive 1;garage 60;");
    }

    private static void qAt0AndAt100() {
        LastPlace x = one();
        wait(x, 0, 0, 0, 61000);
        wait(x, 0, 1, 0, 61000);
        wait(x, 0, 99, 0, 61000);
        wait(x, 100, 0, 1, 10000);
        wait(x, 100, 1, 1, 11000);
        wait(x, 100, 50, 1, 60000);
        // 51000 and TAKING is GOING ON: of like ones the least m
        wait(x, 100, 51, 0, 61000);
        wait(x, 100, 52, 0, 61000);
        // 1 of a hundred of 51000 is 510: less than a tick of 1
        wait(x, 1, 1, 0, 61000);
        // 2 of a hundred is 1020
        Due.is("q 2, u 1", x.waits(0, 0, 0, 0, 2, 1, 0) > 0 ? 1 : 0, 1);
        wait(x, 99, 0, 3, 10000);
    }

    private static void uAt0AndAt99() {
        LastPlace x = one();
        int w = 61000;
        for (int m = 1; m <= 20; m++) {
            w = (1 * 10000 + 99 * w) / 100;
        }
        wait(x, 1, 0, 20, w);
        // a garage so dear that a tick of 99 pays: 1000000, TAKING 1000
        LastPlace y = Due.with("doors 1 free 50 price 0;walk 1;drive 1;garage 999;");
        wait(y, 100, 99, 1, 100000);
        // 9 of a hundred of 999000 is less than 99000, 10 of them is more, down to 991000
        wait(y, 9, 99, 0, 1000000);
        w = 1000000;
        for (int m = 1; m <= 20; m++) {
            w = 99000 + (10 * 1000 + 90 * w) / 100;
        }
        wait(y, 10, 99, 20, w);
    }

    /** "WAIT: m (0 .. 20)". */
    private static void mFrom0To20() {
        LastPlace x = one();
        // a tick of 13 pays always at 26 of a hundred of 51000, and ever less behind it, but never nothing
        int w = 61000;
        int least = w;
        int best = 0;
        for (int m = 1; m <= 20; m++) {
            w = 13000 + (26 * 10000 + 74 * w) / 100;
            if (w < least) {
                least = w;
                best = m;
            }
        }
        Due.is("it pays to the 20th", best, 20);
        wait(x, 26, 13, 20, least);
        // TAKING is dearer than GOING ON: one does not wait, though it costs nothing
        LastPlace y = Due.with("doors 1 free 50 price 62;walk 0;drive 1;garage 60;");
        wait(y, 50, 0, 0, 61000);
        wait(y, 100, 0, 0, 61000);
        // like GOING ON
        LastPlace z = Due.with("doors 1 free 50 price 61;walk 0;drive 1;garage 60;");
        wait(z, 50, 0, 0, 61000);
        wait(z, 100, 0, 0, 61000);
    }

    /** "the least W (the least such)": 11000, 2000, 1100, 1010, 1001, 1000 (.1 is cut), and 1000 ever after. */
    private static void theLeastSuch() {
        LastPlace x = Due.with("doors 1 free 50 price 1;walk 0;drive 1;garage 10;");
        wait(x, 90, 0, 5, 1000);
        wait(x, 100, 0, 1, 1000);
        wait(x, 100, 9, 1, 10000);
        wait(x, 100, 10, 0, 11000);
    }

    /** "WAITING at a taken DOOR i in ROUND r with a SIGHT": TAKING and GOING ON of that ROUND and SIGHT. */
    private static void inEachRoundAndSight() {
        LastPlace x = Due.with("doors 3 free 50 price 7;walk 2;drive 3;late 4;curtain 3;see 2;round 2 times 3;garage 60;");
        for (int r = 0; r <= 3; r++) {
            for (int i = 0; i < 3; i++) {
                for (int sight = 0; sight < 1 << (3 - i); sight += 2) {
                    String at = "waits(0, " + r + ", " + i + ", " + sight + ")";
                    Due.is(at + ", none goes", x.waits(0, r, i, sight, 0, 5, 1), x.goingOn(0, r, i, sight));
                    int at100 = Math.min(x.goingOn(0, r, i, sight), 1000 + x.taking(0, r, i));
                    Due.is(at + ", one goes at once", x.waits(0, r, i, sight, 100, 1, 1), at100);
                    Due.is(at + " with its bit 0", x.waits(0, r, i, sight | 1, 100, 1, 1), NOT);
                }
            }
        }
    }

    /** "OUTSIDE (q 0 .. 100, u 0 .. 99), NOT: the DOOR is free in SIGHT." */
    private static void refusals() {
        LastPlace x = one();
        for (int wrong : new int[] {-1, 101, LEAST_INT, GREATEST_INT}) {
            Due.is("q " + wrong, x.waits(0, 0, 0, 0, wrong, 0, 0), OUTSIDE);
            Due.is("q " + wrong + ", free", x.waits(0, 0, 0, 1, wrong, 0, 0), OUTSIDE);
            Due.is("q " + wrong + ", no DOOR", x.waits(0, 0, 1, 1, wrong, 0, 0), UNKNOWN);
        }
        for (int wrong : new int[] {-1, 100, LEAST_INT, GREATEST_INT}) {
            Due.is("u " + wrong, x.waits(0, 0, 0, 0, 0, wrong, 0), OUTSIDE);
            Due.is("u " + wrong + ", free", x.waits(0, 0, 0, 1, 0, wrong, 0), OUTSIDE);
        }
        for (int wrong : new int[] {-1, 2, LEAST_INT, GREATEST_INT}) {
            Due.is("what " + wrong, x.waits(0, 0, 0, 0, 0, 0, wrong), OUTSIDE);
            Due.is("what " + wrong + ", free", x.waits(0, 0, 0, 1, 0, 0, wrong), OUTSIDE);
        }
        Due.is("free", x.waits(0, 0, 0, 1, 0, 0, 0), NOT);
        Due.is("free, at the most", x.waits(0, 0, 0, 1, 100, 99, 1), NOT);
        Due.is("not free, at the most", x.waits(0, 0, 0, 0, 100, 99, 1), 61000);
    }

    /** "the least of TAKING of those free, and THE END of 0". */
    private static void boyAtTheEdges() {
        LastPlace x = Due.with("doors 24 free 0 price 0;drive 99;garage 77;");
        Due.is("none is free: THE END, without driving", x.boy(0), 77000);
        Due.street(x, 0, "doors 24 free 100 price 5;walk 3;drive 99;garage 77;");
        Due.is("all are free: the last one", x.boy(0), 8000);
        Due.street(x, 0, "doors 1 free 100 price 5;doors 23 free 100 price 99;walk 3;drive 99;garage 78;");
        Due.is("all are free: the first one", x.boy(0), 77000);
        Due.street(x, 0, "doors 1 free 100 price 5;doors 23 free 100 price 99;walk 3;drive 99;garage 76;");
        Due.is("the garage is less", x.boy(0), 76000);
        Due.street(x, 0, "doors 1 free 50 price 5;walk 0;drive 1;garage 5;");
        Due.is("like ones", x.boy(0), 5000);
        // THE END of 0 may be ROUND: 2 and START of 1, which is 10
        Due.street(x, 0, "doors 1 free 100 price 10;doors 1 free 100 price 10;walk 0;drive 1;late 0;see 0;round 2 times 1;garage 99;");
        Due.is("THE END of 0", x.end(0, 0, 0), 12000);
        Due.is("TAKING is less", x.boy(0), 10000);
        Due.street(x, 0, "doors 1 free 50 price 30;doors 1 free 50 price 0;walk 0;drive 0;late 0;see 0;round 0 times 1;garage 60;");
        // START of 1: 0 or 60 at DOOR 1, so DOOR 0 is like GOING ON: 30; THE END of 0 is 30
        Due.is("THE END is ROUND", x.end(0, 0, 1), 1);
        Due.is("its cost", x.end(0, 0, 0), 30000);
        Due.is("DOOR 0 is no better than THE END", x.boy(0), 15000);
        for (int none : new int[] {-1, 1, 2, 3, LEAST_INT, GREATEST_INT}) {
            Due.is("boy(" + none + ")", x.boy(none), UNKNOWN);
        }
    }
}
