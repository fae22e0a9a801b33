/** Promises 22 to 31: waits, boy, car, steer, parks, rests, turn, allRests, lost, mend. */
public final class CarsTest {
    private static final int NONE = LastPlace.NONE, UNKNOWN = LastPlace.UNKNOWN, OUTSIDE = LastPlace.OUTSIDE;
    private static final int NOT = LastPlace.NOT, FULL = LastPlace.FULL;
    private static final String FOUR = "doors 4 free 50 price 0;walk 9;drive 1;curtain 200;garage 40;";

    public static void main(String[] args) {
        waits();
        boy();
        carAndSteer();
        parks();
        rests();
        turn();
        barsBehindTheStreet();
        allRests();
        lost();
        mend();
        refusals();
        Due.close();
    }

    private static void waits() {
        LastPlace x = Due.with("doors 1 free 50 price 0;walk 10;drive 1;garage 60;curtain 200;");
        // GOING ON 61000, TAKING 10000
        Due.is("one goes at once", x.waits(0, 0, 0, 0, 100, 5, 0), 1);
        Due.is("what it costs", x.waits(0, 0, 0, 0, 100, 5, 1), 15000);
        Due.is("none goes", x.waits(0, 0, 0, 0, 0, 0, 0), 0);
        Due.is("none goes: GOING ON", x.waits(0, 0, 0, 0, 0, 0, 1), 61000);
        Due.is("too dear", x.waits(0, 0, 0, 0, 50, 99, 0), 0);
        // 26 of a hundred of 51000 is 13260: a tick of 13 pays always
        Due.is("as long as can be", x.waits(0, 0, 0, 0, 26, 13, 0), 20);
        int w = 61000;
        for (int m = 1; m <= 20; m++) {
            w = 13000 + (26 * 10000 + 74 * w) / 100;
        }
        Due.is("its cost", x.waits(0, 0, 0, 0, 26, 13, 1), w);
        // 51000 and TAKING is 61000 again: of like ones the least m
        Due.is("of like ones the least", x.waits(0, 0, 0, 0, 100, 51, 0), 0);
        Due.is("q -1", x.waits(0, 0, 0, 0, -1, 5, 0), OUTSIDE);
        Due.is("q 101", x.waits(0, 0, 0, 0, 101, 5, 0), OUTSIDE);
        Due.is("u -1", x.waits(0, 0, 0, 0, 5, -1, 0), OUTSIDE);
        Due.is("u 100", x.waits(0, 0, 0, 0, 5, 100, 0), OUTSIDE);
        Due.is("what 2", x.waits(0, 0, 0, 0, 5, 5, 2), OUTSIDE);
        Due.is("what -1", x.waits(0, 0, 0, 0, 5, 5, -1), OUTSIDE);
        Due.is("free", x.waits(0, 0, 0, 1, 5, 5, 0), NOT);
        Due.is("free, but q 101", x.waits(0, 0, 0, 1, 101, 5, 0), OUTSIDE);
        Due.is("no door, q 101", x.waits(0, 0, 1, 1, 101, 5, 0), UNKNOWN);
        Due.is("edges", x.waits(0, 0, 0, 0, 100, 99, 1), 61000);
    }

    private static void boy() {
        LastPlace x = Due.with("doors 2 free 33 price 0;alike 20;walk 5;drive 3;curtain 200;garage 7;");
        // TAKING 10000, 5000; THE END 7000: DOOR 0 is of no use
        int behindFree = (53 * 5000 + 47 * 7000) / 100;
        int behindTaken = (13 * 5000 + 87 * 7000) / 100;
        Due.is("boy", x.boy(0), (33 * behindFree + 67 * behindTaken) / 100);
        Due.street(x, 1, "doors 1 free 50 price 0;doors 1 free 50 price 90;walk 5;drive 3;curtain 200;garage 70;");
        Due.is("a dear one behind a cheap one", x.boy(1), (50 * 10000 + 50 * 70000) / 100);
        Due.street(x, 1, "doors 1 free 50 price 0;walk 1;drive 1;curtain 200;see 0;round 4 times 1;garage 100;");
        Due.is("THE END by ROUND", x.boy(1), (50 * 1000 + 50 * 55000) / 100);
        Due.is("boy(2)", x.boy(2), UNKNOWN);
        Due.is("boy(-1)", x.boy(-1), UNKNOWN);
        Due.is("boy(3)", x.boy(3), UNKNOWN);
    }

    private static void carAndSteer() {
        LastPlace x = new LastPlace();
        Due.is("walk -1", x.car(-1, 0), OUTSIDE);
        Due.is("walk 100", x.car(100, 0), OUTSIDE);
        Due.is("bar -1", x.car(0, -1), OUTSIDE);
        Due.is("bar 25", x.car(0, 25), OUTSIDE);
        Due.is("none came", x.count(3), 0);
        Due.is("car 0", x.car(0, 24), 0);
        Due.is("car 1", x.car(99, 0), 1);
        Due.is("car 2", x.car(1, 1), 2);
        Due.is("steer(3, 0)", x.steer(3, 0), UNKNOWN);
        Due.is("steer(3, 25)", x.steer(3, 25), UNKNOWN);
        Due.is("car 3", x.car(1, 1), 3);
        Due.is("a fifth", x.car(1, 1), FULL);
        Due.is("a fifth that is wrong", x.car(100, 1), OUTSIDE);
        Due.is("four", x.count(3), 4);
        Due.is("steer(0, 5)", x.steer(0, 5), 24);
        Due.is("steer(0, 24)", x.steer(0, 24), 5);
        Due.is("steer(0, 25)", x.steer(0, 25), OUTSIDE);
        Due.is("steer(0, -1)", x.steer(0, -1), OUTSIDE);
        Due.is("steer(-1, 0)", x.steer(-1, 0), UNKNOWN);
        Due.is("steer(0, 0)", x.steer(0, 0), 24);
        Due.is("the others stay", x.steer(1, 3), 0);
    }

    private static void parks() {
        LastPlace x = Due.with(FOUR);
        x.car(5, 1);
        x.car(2, 0);
        x.car(3, 1);
        x.car(3, 24);
        int[] places = {1, 0, 3, NONE};
        // by its own WALK, and 1000 for each DOOR passed
        int[] costs = {15000 + 1000, 8000, 3000 + 3000, 40000 + 4000};
        for (int c = 0; c < 4; c++) {
            Due.is("the place of " + c, x.parks(0, 0b1011, c, 0), places[c]);
            Due.is("the cost of " + c, x.parks(0, 0b1011, c, 1), costs[c]);
        }
        Due.is("one of two takes it", x.parks(0, 0b0100, 0, 0), 2);
        Due.is("the other does not", x.parks(0, 0b0100, 1, 0), NONE);
        Due.is("ahead of its bar", x.parks(0, 0b0001, 0, 0), NONE);
        // being late and ROUNDS: as in THE END of 0, without ROUND
        Due.street(x, 1, "doors 4 free 100 price 0;walk 9;drive 1;late 7;curtain 3;round 0 times 3;garage 400;");
        Due.is("one goes ROUND", x.end(1, 0, 1), 1);
        Due.is("a car does not", x.parks(1, 0, 0, 1), 407000 + 4000);
        Due.is("a car is late", x.parks(1, 15, 1, 1), 8000 + 7000);
    }

    private static void rests() {
        LastPlace x = Due.with(FOUR);
        Due.is("no cars", x.rests(0, 15), 1);
        x.car(5, 0);
        Due.is("a nearer one is better", x.rests(0, 0b1001), 0);
        Due.is("no other one", x.rests(0, 0b0001), 1);
        x.steer(0, 3);
        Due.is("the last one", x.rests(0, 15), 1);
        x.car(5, 0);
        Due.is("the second is not", x.rests(0, 15), 0);
        x.steer(1, 2);
        Due.is("the second is", x.rests(0, 15), 1);
        x.steer(1, 3);
        Due.is("from 3 on it is taken: the garage", x.rests(0, 15), 0);
        x.steer(1, 24);
        Due.is("a bar behind the street, with a better one", x.rests(0, 15), 0);
        Due.is("a bar behind the street, with none", x.rests(0, 8), 1);
    }

    private static void turn() {
        LastPlace x = Due.with(FOUR);
        Due.is("no cars", x.turn(0, 15), 0);
        x.car(5, 0);
        x.car(5, 0);
        x.car(1, 2);
        Due.is("rests", x.rests(0, 15), 0);
        Due.is("one turn", x.turn(0, 15), 1);
        Due.is("rests", x.rests(0, 15), 1);
        Due.is("none more", x.turn(0, 15), 0);
        Due.is("the first: 3", x.steer(0, 0), 3);
        Due.is("the second: 2", x.steer(1, 0), 2);
        // walk 1, drive 1: all DOORS cost it 4000, so its own one stays where it can; from 2 on all are taken
        Due.is("the third: the least of like ones", x.steer(2, 0), 0);
        LastPlace y = Due.with(FOUR);
        y.car(1, 2);
        Due.is("of like ones its own", y.turn(0, 15), 0);
        Due.is("it stays", y.steer(0, 2), 2);
        Due.is("with none free it stays, too", y.turn(0, 0), 0);
        // the least BAR of those that come to the same DOOR
        y.steer(0, 0);
        Due.street(y, 0, "doors 4 free 50 price 0;walk 9;drive 0;curtain 200;garage 40;");
        Due.is("to DOOR 3", y.turn(0, 0b1001), 1);
        Due.is("by the least bar", y.steer(0, 0), 1);
        // the garage by the least bar that comes to it
        Due.street(y, 0, "doors 4 free 50 price 99;walk 9;drive 0;curtain 200;garage 40;");
        Due.is("to the garage", y.turn(0, 0b0101), 1);
        Due.is("by bar 3", y.steer(0, 0), 3);
    }

    /** A BAR is taken out of 0 .. n, so one behind n, though AT REST, becomes the least of those that cost the same. */
    private static void barsBehindTheStreet() {
        LastPlace x = Due.with(FOUR);
        x.car(5, 24);
        Due.is("at rest", x.rests(0, 0), 1);
        Due.is("a turn", x.turn(0, 0), 1);
        Due.is("the least of like ones", x.steer(0, 24), 0);
        Due.is("a turn", x.turn(0, 1), 1);
        Due.is("DOOR 0 is better than the garage", x.steer(0, 4), 0);
        Due.is("bar 4 is the garage", x.parks(0, 0, 0, 0), NONE);
        Due.is("bar 4 stays with none free", x.turn(0, 0), 0);
        Due.is("it is 4", x.steer(0, 5), 4);
        Due.is("bar 5 is the first behind n, and does not stay", x.turn(0, 0), 1);
        Due.is("the least of like ones", x.steer(0, 0), 0);
    }

    private static void allRests() {
        LastPlace x = Due.with("doors 2 free 50 price 0;walk 9;drive 1;curtain 200;garage 40;");
        Due.is("no cars: the empty row", x.allRests(0, 3), 1);
        x.car(5, 2);
        // bars 0, 1, 2 come to DOOR 0 (10000), DOOR 1 (6000), the garage (42000)
        Due.is("one car", x.allRests(0, 3), 1);
        Due.is("one car, DOOR 1 alone", x.allRests(0, 2), 2);
        Due.is("one car, none", x.allRests(0, 0), 3);
        x.car(5, 1);
        Due.is("two cars: 1 and 0", x.allRests(0, 3), 1);
        // the first by 0 or 1 at DOOR 1; the second by any at the garage
        Due.is("two cars, DOOR 1 alone", x.allRests(0, 2), 6);
        Due.is("two cars, none", x.allRests(0, 0), 9);
        Due.is("bars stay", x.steer(0, 0), 2);
        Due.is("bars stay", x.steer(1, 0), 1);
        x.car(5, 0);
        Due.is("three cars", x.allRests(0, 3), NOT);
        Due.is("three cars, OUTSIDE", x.allRests(0, 4), OUTSIDE);
        Due.is("three cars, UNKNOWN", x.allRests(1, 4), UNKNOWN);
    }

    private static void lost() {
        LastPlace x = Due.with(FOUR);
        Due.is("no cars", x.lost(0, 15), 0);
        x.car(2, 0);
        // DOOR 0: 8000; DOOR 3: 2000 and 3000
        Due.is("one car", x.lost(0, 15), 3000);
        x.car(9, 0);
        // DOORS 0 and 1: 8000, and 27000 and 1000; the best: 3 for the second (9000 and 3000), 2 for the first (4000 and 2000)
        Due.is("two cars", x.lost(0, 15), 36000 - 18000);
        // one DOOR: the first has it (2000 + 3000), the second the garage (44000); the other way 12000 and 44000
        Due.is("one DOOR", x.lost(0, 8), 0);
        Due.street(x, 1, "doors 2 free 50 price 0;drive 0;garage 10;curtain 200;");
        // DOOR 0 alone: 4000 for the first, 18000 for the second; the garage 10000
        Due.is("one DOOR, to the first", x.lost(1, 1), 0);
        x.steer(0, 1);
        Due.is("one DOOR, to the second", x.lost(1, 1), 28000 - 14000);
        x.steer(1, 1);
        Due.is("one DOOR, to none", x.lost(1, 1), 20000 - 14000);
    }

    private static void mend() {
        LastPlace x = Due.with(FOUR);
        Due.is("no cars", x.mend(0, 15, 0), 0);
        x.car(1, 7);
        x.car(9, 8);
        // all DOORS are alike to the first: from 0 it stays at 0, the second goes to 3
        Due.is("nothing to mend", x.mend(0, 15, 3), 0);
        Due.is("bars stay", x.steer(0, 7), 7);
        Due.is("bars stay", x.steer(1, 8), 8);
        x.steer(0, 3);
        Due.is("from all 0, though 3 is like 0 to the first", x.mend(0, 15, 3), 0);
        // 20 more for DOOR 1 are what it is nearer: from 0, of like ones the first stays there
        LastPlace z = Due.with("doors 2 free 50 price 0;walk 9;drive 0;curtain 200;garage 400;");
        z.car(20, 0);
        z.car(99, 0);
        Due.is("each p begins from all 0", z.mend(0, 3, 1), 2);
        LastPlace y = Due.with("doors 2 free 50 price 0;walk 9;drive 0;curtain 200;garage 400;");
        y.car(15, 0);
        y.car(99, 0);
        // the first has DOOR 1: 15 and 198; the other way 30 and 99: the first moves when 10 p is more than 15
        Due.is("p 2", y.mend(0, 3, 1), 2);
        Due.is("from all 0, wherever they are now", y.steer(0, 1), 0);
        Due.is("p 2 again", y.mend(0, 3, 1), 2);
        // from 0 on both DOORS are dearer: nothing changes
        Due.is("p 0", y.mend(0, 3, 0), 0);
        Due.street(y, 1, "doors 2 free 50 price 0;walk 9;drive 0;curtain 200;garage 0;");
        Due.is("the garage for all", y.mend(1, 3, 1), 0);
        Due.is("x 2", y.mend(0, 3, 2), UNKNOWN);
        Due.is("x -1", y.mend(0, 3, -1), UNKNOWN);
        Due.is("x 2, set 4", y.mend(0, 4, 2), UNKNOWN);
        Due.is("set 4", y.mend(0, 4, 1), OUTSIDE);
    }

    private static void refusals() {
        LastPlace x = Due.with(FOUR);
        x.car(5, 3);
        int[][] wrong = {{1, 0, UNKNOWN}, {-1, 0, UNKNOWN}, {3, 0, UNKNOWN}, {1, -1, UNKNOWN}, {0, 16, OUTSIDE}, {0, -1, OUTSIDE},
            {0, Integer.MIN_VALUE, OUTSIDE}, {0, Integer.MAX_VALUE, OUTSIDE}};
        for (int[] w : wrong) {
            String at = "(" + w[0] + ", " + w[1] + ")";
            Due.is("parks" + at, x.parks(w[0], w[1], 0, 0), w[2]);
            Due.is("rests" + at, x.rests(w[0], w[1]), w[2]);
            Due.is("turn" + at, x.turn(w[0], w[1]), w[2]);
            Due.is("allRests" + at, x.allRests(w[0], w[1]), w[2]);
            Due.is("lost" + at, x.lost(w[0], w[1]), w[2]);
            Due.is("mend" + at, x.mend(w[0], w[1], 0), w[2]);
        }
        Due.is("bars stay", x.steer(0, 3), 3);
        Due.is("parks, what 2", x.parks(0, 0, 0, 2), OUTSIDE);
        Due.is("parks, what -1", x.parks(0, 0, 0, -1), OUTSIDE);
        Due.is("parks, car 1", x.parks(0, 0, 1, 0), UNKNOWN);
        Due.is("parks, car 1, what 2", x.parks(0, 0, 1, 2), UNKNOWN);
        Due.is("parks, car -1", x.parks(0, 0, -1, 0), UNKNOWN);
        Due.street(x, 1, "doors 24 free 50 price 0;");
        Due.is("24 DOORS", x.parks(1, (1 << 24) - 1, 0, 0), 3);
        Due.is("a 25th", x.parks(1, 1 << 24, 0, 0), OUTSIDE);
    }
}
