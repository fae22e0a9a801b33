/** Promises 32 to 36: seed, evening, count, keep, goBack. */
public final class EveningsTest {
    private static final int UNKNOWN = LastPlace.UNKNOWN, OUTSIDE = LastPlace.OUTSIDE, NOT = LastPlace.NOT;

    public static void main(String[] args) {
        seed();
        evening();
        eveningOfNeighbours();
        count();
        images();
        Due.close();
    }

    private static void seed() {
        LastPlace x = new LastPlace();
        Due.is("seed(5)", x.seed(5), 0);
        Due.is("seed(-1)", x.seed(-1), OUTSIDE);
        Due.is("seed(least)", x.seed(Integer.MIN_VALUE), OUTSIDE);
        Due.is("seed(most)", x.seed(Integer.MAX_VALUE), 5);
        Due.is("seed(0)", x.seed(0), Integer.MAX_VALUE);
    }

    /** From 0: 12345, 1406932606, 654583775, 1449466924: DRAWS 0, 68, 88, 17. */
    private static void evening() {
        LastPlace x = Due.with("doors 4 free 68 price 0;walk 1;drive 2;curtain 200;garage 9;");
        Due.rule(x, "from 0");
        Due.rule(x, "from 1");
        Due.is("a DRAW of 0 is below 68", x.evening(0, 0, 1), 4);
        Due.is("one DRAW", x.seed(0), 12345);
        Due.is("0, 68, 88, 17: DOOR 3", x.evening(0, 1, 1), 6 + 1);
        Due.is("four DRAWS", x.seed(0), 1449466924);
        Due.street(x, 0, "doors 4 free 69 price 0;walk 1;drive 2;curtain 200;garage 9;");
        Due.is("68 is below 69: DOOR 1", x.evening(0, 1, 1), 2 + 3);
        Due.is("two DRAWS", x.seed(0), 1406932606);
        Due.street(x, 0, "doors 4 free 0 price 0;walk 1;drive 2;curtain 200;garage 9;");
        Due.is("0 is not below 0", x.evening(0, 0, 1), 8 + 9);
        Due.is("four DRAWS", x.seed(0), 1449466924);
        Due.is("50 evenings", x.evening(0, 0, 50), 50 * 17);
        int seed = x.seed(0);
        x.seed(seed);
        Due.is("no evening", x.evening(0, 0, 0), OUTSIDE);
        Due.is("51 evenings", x.evening(0, 0, 51), OUTSIDE);
        Due.is("-1 evenings", x.evening(0, 0, -1), OUTSIDE);
        Due.is("no street", x.evening(1, 0, 1), UNKNOWN);
        Due.is("no rule", x.evening(0, 2, 1), UNKNOWN);
        Due.is("no rule -1", x.evening(0, -1, 1), UNKNOWN);
        Due.is("no rule, no evening", x.evening(0, 2, 0), UNKNOWN);
        Due.is("the seed is as it was", x.seed(0), seed);
        // the dearest evenings: together more than an int holds
        Due.street(x, 0, "doors 24 free 0 price 0;drive 99;late 99;curtain 0;round 60 times 3;garage 999;");
        Due.rule(x, "from 24 round 3");
        int one = 4 * 24 * 99 + 3 * 60 * 99 + 999 + 99 * (3 * 84 + 24);
        Due.is("the dearest", x.evening(0, 2, 50), 50 * one);
        Due.is("rounds draw again", x.evening(0, 2, 1), one);
    }

    private static void eveningOfNeighbours() {
        // DRAWS 0, 68: behind a free DOOR 19 and 50 is 69, behind a taken one 0
        LastPlace x = Due.with("doors 2 free 19 price 0;alike 50;walk 1;drive 2;curtain 200;garage 9;");
        Due.rule(x, "from 1");
        Due.is("DOOR 1 is free by DOOR 0", x.evening(0, 0, 1), 2 + 1);
        Due.street(x, 0, "doors 1 free 0 price 0;doors 1 free 19 price 0;alike 50;walk 1;drive 2;curtain 200;garage 9;");
        x.seed(0);
        Due.is("DOOR 1 is not free by DOOR 0", x.evening(0, 0, 1), 4 + 9);
    }

    private static void count() {
        LastPlace x = Due.with("doors 1 free 1 price 1;");
        Due.rule(x, "from 1");
        Due.rule(x, "from 1");
        x.saw(true);
        x.saw(false);
        x.saw(true);
        x.car(1, 1);
        x.feed(5, 0L);
        int[] due = {2, 3, 2, 1, 5};
        for (int what = 0; what < 5; what++) {
            Due.is("count(" + what + ")", x.count(what), due[what]);
        }
        Due.is("count(5)", x.count(5), OUTSIDE);
        Due.is("count(-1)", x.count(-1), OUTSIDE);
    }

    private static void images() {
        LastPlace x = Due.with("doors 2 free 50 price 1;");
        Due.is("goBack(-1)", x.goBack(-1), UNKNOWN);
        Due.is("goBack(2)", x.goBack(2), UNKNOWN);
        Due.is("goBack(0), not kept", x.goBack(0), NOT);
        Due.is("keep(-1)", x.keep(-1), UNKNOWN);
        Due.is("keep(2)", x.keep(2), UNKNOWN);
        Due.is("keep(1) of nothing", x.keep(1), 1);
        x.saw(true);
        x.saw(false);
        x.car(7, 3);
        x.seed(77);
        Due.is("keep(0)", x.keep(0), 1);
        x.saw(true);
        x.steer(0, 9);
        x.car(8, 4);
        x.seed(88);
        x.feed(3, 0L);
        Due.street(x, 1, "doors 1 free 1 price 1;");
        Due.rule(x, "from 1");
        x.feed(3, 0L);
        Due.is("goBack(0)", x.goBack(0), 1);
        Due.is("THE ROW", x.count(1) * 10 + x.count(2), 21);
        Due.is("CARS", x.count(3), 1);
        Due.is("its walk", x.parks(0, 1, 0, 1), 200000 + 2000);
        Due.is("its bar", x.steer(0, 0), 3);
        Due.is("its walk", x.parks(0, 1, 0, 1), 1000 + 14000);
        Due.is("THE SEED", x.seed(5), 77);
        Due.is("RULES stay", x.count(0), 1);
        Due.is("THE TEXT stays", x.count(4), 3);
        Due.is("the last one seen is not free", x.judge(0, 0, true), NOT);
        // an IMAGE stays as it was kept, whatever comes behind it
        Due.is("goBack(0) again", x.goBack(0), 1);
        Due.is("its bar again", x.steer(0, 1), 3);
        Due.is("goBack(1)", x.goBack(1), 1);
        Due.is("nothing", x.count(1) + x.count(2) + x.count(3), 0);
        Due.is("THE SEED of 1", x.seed(9), 0);
        Due.is("no car", x.steer(0, 0), UNKNOWN);
        Due.is("keep(0) over it", x.keep(0), 1);
        x.goBack(0);
        Due.is("THE SEED of 0", x.seed(9), 9);
    }
}
