/** The edges of part 5 of the document that tell of CARS, sentence by sentence: COST, AT REST, BY TURNS, LOST, MENDED. */
public final class CarEdgesTest {
    private static final int NONE = LastPlace.NONE, UNKNOWN = LastPlace.UNKNOWN, OUTSIDE = LastPlace.OUTSIDE;
    private static final int NOT = LastPlace.NOT, FULL = LastPlace.FULL;
    private static final int LEAST_INT = Integer.MIN_VALUE, GREATEST_INT = Integer.MAX_VALUE;
    private static final int ALL_24 = (1 << 24) - 1;

    public static void main(String[] args) {
        noCar();
        fourCars();
        walkAtItsBounds();
        barAtItsBounds();
        emptyAndWholeSets();
        bitsOfOtherDoors();
        doorsPassed();
        noneWouldHaveLess();
        ofLikeOnesItsOwn();
        elseTheLeast();
        likeTheGarage();
        fourCarsByTurns();
        turnsThatChangedSome();
        twoCarsAtMost();
        rowsOfBars();
        lostOfFour();
        lostToTheGarage();
        pAt0AndAt20();
        xAtTheFirstAndTheLastDoor();
        mendLeavesAll();
        mendFromAll0();
        Due.close();
    }

    private static LastPlace with(String street, int... walksAndBars) {
        LastPlace x = Due.with(street);
        for (int c = 0; c < walksAndBars.length; c += 2) {
            x.car(walksAndBars[c], walksAndBars[c + 1]);
        }
        return x;
    }

    /** A new object has no CARS; what is asked of all of them is nothing then. */
    private static void noCar() {
        for (int n : new int[] {1, 24}) {
            LastPlace x = Due.with("doors " + n + " free 50 price 0;");
            int all = (1 << n) - 1;
            for (int set : new int[] {0, 1, all}) {
                Due.is("rests", x.rests(0, set), 1);
                Due.is("turn", x.turn(0, set), 0);
                Due.is("allRests: the row of no BARS", x.allRests(0, set), 1);
                Due.is("lost", x.lost(0, set), 0);
                Due.is("mend", x.mend(0, set, 0), 0);
                Due.is("parks", x.parks(0, set, 0, 0), UNKNOWN);
            }
            Due.is("none came", x.count(3), 0);
        }
    }

    /** "CARS (4 at most)"; "FULL"; "What has a number has it from 0 on, as it comes". */
    private static void fourCars() {
        LastPlace x = Due.with("doors 24 free 50 price 0;drive 0;");
        for (int c = 0; c < 4; c++) {
            Due.is("not there yet", x.steer(c, 0), UNKNOWN);
            Due.is("not there yet", x.parks(0, ALL_24, c, 0), UNKNOWN);
            Due.is("car " + c, x.car(c, 5 * c), c);
            Due.is("so many", x.count(3), c + 1);
        }
        Due.is("a fifth", x.car(0, 0), FULL);
        Due.is("a fifth", x.car(99, 24), FULL);
        Due.is("a fifth with too much walk", x.car(100, 24), OUTSIDE);
        Due.is("a fifth with too far a bar", x.car(99, 25), OUTSIDE);
        Due.is("four", x.count(3), 4);
        for (int c = 0; c < 4; c++) {
            Due.is("its DOOR", x.parks(0, ALL_24, c, 0), 5 * c);
            Due.is("its COST", x.parks(0, ALL_24, c, 1), 1000 * c * (24 - 5 * c));
            Due.is("its BAR", x.steer(c, 24), 5 * c);
        }
        for (int c : new int[] {-1, 4, LEAST_INT, GREATEST_INT}) {
            Due.is("steer(" + c + ")", x.steer(c, 0), UNKNOWN);
            Due.is("steer(" + c + ", 25)", x.steer(c, 25), UNKNOWN);
            Due.is("parks of " + c, x.parks(0, 0, c, 0), UNKNOWN);
            Due.is("parks of " + c + " in another SET", x.parks(0, -1, c, 2), UNKNOWN);
        }
    }

    /** "a WALK (0 .. 99, in the place of W)". */
    private static void walkAtItsBounds() {
        LastPlace x = with("doors 24 free 50 price 7;walk 50;drive 0;", 0, 0, 99, 0);
        Due.is("walk 0", x.parks(0, 1, 0, 1), 7000);
        Due.is("walk 99", x.parks(0, 3, 1, 1), (7 + 99 * 23) * 1000);
        for (int walk : new int[] {-1, 100, LEAST_INT, GREATEST_INT}) {
            Due.is("walk " + walk, x.car(walk, 0), OUTSIDE);
            Due.is("walk " + walk + ", bar 25", x.car(walk, 25), OUTSIDE);
        }
        Due.is("two", x.count(3), 2);
    }

    /** "a BAR of its own (0 .. 24)"; "the first that is free still from its BAR on, else the garage". */
    private static void barAtItsBounds() {
        for (int n : new int[] {1, 2, 23, 24}) {
            LastPlace x = with("doors " + n + " free 50 price 0;", 1, 0);
            int all = (1 << n) - 1;
            for (int bar = 0; bar <= 24; bar++) {
                x.steer(0, bar);
                Due.is("bar " + bar + " of " + n, x.parks(0, all, 0, 0), bar < n ? bar : NONE);
                Due.is("bar " + bar + ", the last DOOR alone", x.parks(0, 1 << (n - 1), 0, 0), bar < n ? n - 1 : NONE);
                Due.is("bar " + bar + ", the first DOOR alone", x.parks(0, 1, 0, 0), bar == 0 ? 0 : NONE);
            }
            Due.is("it was 24", x.steer(0, 24), 24);
            for (int bar : new int[] {-1, 25, LEAST_INT, GREATEST_INT}) {
                Due.is("steer to " + bar, x.steer(0, bar), OUTSIDE);
                Due.is("car with " + bar, x.car(0, bar), OUTSIDE);
            }
            Due.is("it is 24 still", x.steer(0, 0), 24);
            Due.is("a car at 0", x.car(0, 0), 1);
            Due.is("a car at 24", x.car(0, 24), 2);
            Due.is("its bar", x.steer(2, 0), 24);
        }
    }

    private static void emptyAndWholeSets() {
        LastPlace x = with("doors 24 free 50 price 0;drive 2;garage 30;curtain 20;late 3;", 1, 0, 2, 0, 3, 0, 4, 0);
        // each is 4 late: 12
        for (int c = 0; c < 4; c++) {
            Due.is("none is free", x.parks(0, 0, c, 0), NONE);
            Due.is("the garage", x.parks(0, 0, c, 1), (30 + 12 + 48) * 1000);
            Due.is("all are free", x.parks(0, ALL_24, c, 0), c);
            Due.is("its COST", x.parks(0, ALL_24, c, 1), ((c + 1) * (24 - c) + 12 + 2 * c) * 1000);
            Due.is("one is free", x.parks(0, 1 << 23, c, 0), c == 0 ? 23 : NONE);
        }
        Due.is("none is free: at rest", x.rests(0, 0), 1);
        Due.is("none is free: nothing lost", x.lost(0, 0), 0);
        Due.is("none is free: no turn", x.turn(0, 0), 0);
        Due.is("none is free: nothing to mend", x.mend(0, 0, 23), 0);
    }

    /** "OUTSIDE (the SET: bits of other DOORS; what)". */
    private static void bitsOfOtherDoors() {
        for (int n = 1; n <= 24; n++) {
            LastPlace x = with("doors " + n + " free 50 price 0;", 1, 0);
            int all = (1 << n) - 1;
            Due.is("all", x.parks(0, all, 0, 0), 0);
            for (int set : new int[] {all + 1, all + 2, 2 * all + 1, 1 << 24, 1 << 30, LEAST_INT, LEAST_INT | 1, -1, GREATEST_INT}) {
                Due.is("parks, SET " + set, x.parks(0, set, 0, 0), OUTSIDE);
                Due.is("rests, SET " + set, x.rests(0, set), OUTSIDE);
                Due.is("turn, SET " + set, x.turn(0, set), OUTSIDE);
                Due.is("allRests, SET " + set, x.allRests(0, set), OUTSIDE);
                Due.is("lost, SET " + set, x.lost(0, set), OUTSIDE);
                Due.is("mend, SET " + set, x.mend(0, set, 0), OUTSIDE);
                Due.is("mend, SET " + set + ", no DOOR", x.mend(0, set, n), UNKNOWN);
            }
            for (int what : new int[] {-1, 2, LEAST_INT, GREATEST_INT}) {
                Due.is("parks, what " + what, x.parks(0, 0, 0, what), OUTSIDE);
            }
        }
    }

    /** "1000 times D for each DOOR passed (all, if it is the garage)". */
    private static void doorsPassed() {
        LastPlace x = with("doors 5 free 50 price 0;drive 9;garage 100;", 0, 0);
        for (int i = 0; i < 5; i++) {
            Due.is("DOOR " + i, x.parks(0, 1 << i, 0, 1), 9000 * i);
        }
        Due.is("the garage", x.parks(0, 0, 0, 1), 145000);
        // those that are free are passed, too, ahead of the BAR
        x.steer(0, 3);
        Due.is("ahead of its BAR", x.parks(0, 31, 0, 1), 27000);
    }

    /** "AT REST are BARS, if no CAR would have less by another BAR (0 .. n) of its own": like is not less. */
    private static void noneWouldHaveLess() {
        // walk 1, drive 1: DOOR 0 costs its price and 2, DOOR 1 costs 2
        for (int price = 0; price <= 2; price++) {
            LastPlace x = with("doors 1 free 50 price " + price + ";doors 1 free 50 price 0;drive 1;garage 50;", 1, 0);
            Due.is("price " + price, x.rests(0, 3), price == 0 ? 1 : 0);
            Due.is("price " + price + ", no other DOOR", x.rests(0, 1), 1);
            x.steer(0, 1);
            Due.is("price " + price + ", at DOOR 1", x.rests(0, 3), 1);
            x.steer(0, 2);
            Due.is("price " + price + ", at n", x.rests(0, 3), 0);
            x.steer(0, 24);
            Due.is("price " + price + ", behind n", x.rests(0, 3), 0);
            Due.is("price " + price + ", behind n, none free", x.rests(0, 0), 1);
        }
        // the last of four is not at rest, or the first
        LastPlace y = with("doors 5 free 50 price 0;drive 0;garage 500;", 9, 4, 9, 3, 9, 2, 9, 1);
        Due.is("all four", y.rests(0, 31), 1);
        y.steer(3, 0);
        Due.is("the last one is not", y.rests(0, 31), 0);
        y.steer(3, 1);
        y.steer(0, 0);
        Due.is("the first one is not", y.rests(0, 31), 0);
    }

    /** "of like ones its own": wherever it stands among them. */
    private static void ofLikeOnesItsOwn() {
        // walk 1, drive 1: each DOOR costs 4
        for (int bar = 0; bar < 4; bar++) {
            LastPlace x = with("doors 4 free 50 price 0;drive 1;garage 50;", 1, bar);
            Due.is("bar " + bar + " stays", x.turn(0, 15), 0);
            Due.is("it is " + bar, x.steer(0, bar), bar);
            Due.is("bar " + bar + " with the first free", x.turn(0, 1), bar == 0 ? 0 : 1);
            Due.is("it is 0", x.steer(0, bar), 0);
        }
        for (int bar = 0; bar <= 4; bar++) {
            LastPlace x = with("doors 4 free 50 price 0;drive 1;garage 50;", 1, bar);
            Due.is("bar " + bar + " stays with none free", x.turn(0, 0), 0);
            Due.is("it is " + bar, x.steer(0, bar), bar);
        }
    }

    /** "else the least": the least BAR of those that come to the best DOOR, or to like ones. */
    private static void elseTheLeast() {
        // DOOR 3 is best (walk 9, drive 0)
        int[][] cases = {{0b1000, 4, 0}, {0b1001, 0, 1}, {0b1010, 0, 2}, {0b1100, 0, 3}, {0b1111, 0, 3}, {0b1111, 4, 3}, {0b1011, 24, 2},
            {0b1000, 24, 0}};
        for (int[] c : cases) {
            LastPlace x = with("doors 4 free 50 price 0;drive 0;garage 50;", 9, c[1]);
            Due.is("SET " + c[0] + " from " + c[1], x.turn(0, c[0]), 1);
            Due.is("SET " + c[0] + " from " + c[1] + ", its BAR", x.steer(0, 0), c[2]);
        }
        // like DOORS 1 and 3 (walk 1, drive 1, DOOR 2 dear), neither its own
        LastPlace y = with("doors 1 free 9 price 9;doors 1 free 9 price 0;doors 1 free 9 price 9;doors 1 free 9 price 0;drive 1;garage 50;", 1, 0);
        Due.is("from 0", y.turn(0, 15), 1);
        Due.is("to 1", y.steer(0, 2), 1);
        Due.is("from 2", y.turn(0, 15), 1);
        Due.is("to 1 again", y.steer(0, 3), 1);
        Due.is("3 is its own", y.turn(0, 15), 0);
        Due.is("it is 3", y.steer(0, 4), 3);
        Due.is("from n", y.turn(0, 15), 1);
        Due.is("to 1", y.steer(0, 0), 1);
    }

    /** A DOOR that costs like the garage: one keeps what one has; the garage by the least BAR that comes to it. */
    private static void likeTheGarage() {
        for (int garage = 19; garage <= 21; garage++) {
            String street = "doors 2 free 50 price 20;drive 0;garage " + garage + ";";
            LastPlace x = with(street, 0, 0);
            Due.is("at DOOR 0, garage " + garage, x.turn(0, 1), garage < 20 ? 1 : 0);
            Due.is("its BAR", x.steer(0, 2), garage < 20 ? 1 : 0);
            Due.is("at the garage for " + garage, x.turn(0, 1), garage > 20 ? 1 : 0);
            Due.is("its BAR", x.steer(0, 2), garage > 20 ? 0 : 2);
            Due.is("rests", x.rests(0, 1), garage > 20 ? 0 : 1);
        }
    }

    private static void fourCarsByTurns() {
        LastPlace x = with("doors 24 free 50 price 0;drive 0;garage 900;", 9, 0, 9, 0, 9, 0, 9, 0);
        Due.is("one turn", x.turn(0, ALL_24), 1);
        for (int c = 0; c < 4; c++) {
            Due.is("its DOOR", x.parks(0, ALL_24, c, 0), 23 - c);
            Due.is("its BAR", x.steer(c, 23 - c), 23 - c);
        }
        Due.is("at rest", x.rests(0, ALL_24), 1);
        Due.is("no other turn", x.turn(0, ALL_24), 0);
        // three DOORS for four: the last one has the garage, by its own BAR
        LastPlace y = with("doors 3 free 50 price 0;drive 0;garage 900;", 9, 0, 9, 0, 9, 0, 9, 1);
        Due.is("one turn", y.turn(0, 7), 1);
        int[] bars = {2, 1, 0, 1};
        for (int c = 0; c < 4; c++) {
            Due.is("BAR of " + c, y.steer(c, 0), bars[c]);
        }
    }

    /** "how many TURNS changed some": a CAR's place hangs on those ahead alone, so that one turn is enough. */
    private static void turnsThatChangedSome() {
        LastPlace x = with("doors 3 free 50 price 0;drive 0;garage 900;", 9, 2, 9, 1, 9, 0);
        Due.is("none changes", x.turn(0, 7), 0);
        x.steer(2, 3);
        Due.is("the last one changes", x.turn(0, 7), 1);
        Due.is("to 0", x.steer(2, 0), 0);
        x.steer(0, 0);
        Due.is("the first one changes", x.turn(0, 7), 1);
        Due.is("to 2", x.steer(0, 2), 2);
        Due.is("the second stays", x.steer(1, 1), 1);
    }

    /** "NOT: there are more than two CARS". */
    private static void twoCarsAtMost() {
        LastPlace x = Due.with("doors 2 free 50 price 0;");
        int[] due = {1, 3, 9, NOT, NOT};
        for (int cars = 0; cars <= 4; cars++) {
            Due.is(cars + " CARS", x.allRests(0, 0), due[cars]);
            Due.is(cars + " CARS, another SET", x.allRests(0, 4), OUTSIDE);
            Due.is(cars + " CARS, another STREET", x.allRests(1, 4), UNKNOWN);
            x.car(1, 24);
        }
        Due.is("BARS stay", x.steer(0, 0) + x.steer(1, 0), 48);
    }

    /** "How many rows of BARS (0 .. n each)". */
    private static void rowsOfBars() {
        for (int n : new int[] {1, 2, 24}) {
            LastPlace x = with("doors " + n + " free 50 price 0;drive 0;garage 900;", 9, 24);
            int all = (1 << n) - 1;
            Due.is("one, none free", x.allRests(0, 0), n + 1);
            Due.is("one, all free: the last DOOR", x.allRests(0, all), 1);
            Due.is("one, the last DOOR alone", x.allRests(0, 1 << (n - 1)), n);
            Due.is("one, the first DOOR alone", x.allRests(0, 1), 1);
            x.car(9, 24);
            Due.is("two, none free", x.allRests(0, 0), (n + 1) * (n + 1));
            // with one DOOR alone the second one has the garage by any BAR
            Due.is("two, all free", x.allRests(0, all), n == 1 ? 2 : 1);
            Due.is("two, the last DOOR alone", x.allRests(0, 1 << (n - 1)), n * (n + 1));
        }
    }

    /** "the least that all together could have, each given a free DOOR of its own or the garage". */
    private static void lostOfFour() {
        LastPlace x = with("doors 4 free 50 price 0;drive 0;garage 900;", 4, 0, 3, 0, 2, 0, 1, 0);
        // 16, 9, 4, 1 where 4, 6, 6, 4 could be
        Due.is("the wrong way round", x.lost(0, 15), 10000);
        LastPlace y = with("doors 4 free 50 price 0;drive 0;garage 900;", 1, 0, 2, 0, 3, 0, 4, 0);
        Due.is("the right way round", y.lost(0, 15), 0);
        // the last DOOR alone: the first has it for 1, another might for no less
        Due.is("one DOOR", y.lost(0, 8), 0);
        Due.is("one DOOR, to the one with most to walk", x.lost(0, 8), 3000);
        Due.is("none free", x.lost(0, 0), 0);
        // the most that can be lost: all to the garage, from BARS behind all
        LastPlace z = with("doors 24 free 50 price 0;drive 0;garage 999;", 0, 24, 0, 24, 0, 24, 0, 24);
        Due.is("all to the garage", z.lost(0, ALL_24), 4 * 999000);
    }

    /** "or the garage": where a DOOR is dearer than that; "(driving as told)": all DOORS are passed then. */
    private static void lostToTheGarage() {
        LastPlace x = with("doors 1 free 50 price 50;drive 1;garage 10;", 0, 0);
        Due.is("a dear DOOR", x.lost(0, 1), 39000);
        x.steer(0, 1);
        Due.is("the garage", x.lost(0, 1), 0);
        Due.street(x, 0, "doors 1 free 50 price 11;drive 1;garage 10;");
        x.steer(0, 0);
        Due.is("like ones", x.lost(0, 1), 0);
        Due.street(x, 0, "doors 1 free 50 price 10;drive 1;garage 10;");
        x.steer(0, 1);
        Due.is("the DOOR is less by the driving", x.lost(0, 1), 1000);
    }

    /** "a price of 10 times p more (p 0 .. 20)": the first CAR leaves DOOR 1 when 10 p is no less than what DOOR 0 costs more. */
    private static void pAt0AndAt20() {
        int[][] cases = {{1, 1}, {10, 1}, {11, 2}, {100, 10}, {190, 19}, {191, 20}, {199, 20}, {200, 20}, {201, 0}, {250, 0}};
        for (int[] c : cases) {
            LastPlace x = with("doors 1 free 50 price " + c[0] + ";doors 1 free 50 price 0;drive 0;garage 999;", 0, 0, 99, 0);
            Due.is("DOOR 0 for " + c[0], x.mend(0, 3, 1), c[1]);
            Due.is("none free", x.mend(0, 0, 1), 0);
            Due.is("one free", x.mend(0, 2, 1), 0);
        }
        // nothing to mend: the one with most to walk comes first
        LastPlace y = with("doors 1 free 50 price 100;doors 1 free 50 price 0;drive 0;garage 999;", 99, 0, 0, 0);
        Due.is("p 0", y.mend(0, 3, 1), 0);
    }

    /** "for DOORS from x on". */
    private static void xAtTheFirstAndTheLastDoor() {
        // one DOOR, which the first CAR leaves for the garage when 40 and 10 p is more than 50
        LastPlace x = with("doors 1 free 50 price 0;drive 0;garage 50;", 40, 0, 0, 0);
        Due.is("the first, which is the last", x.mend(0, 1, 0), 2);
        Due.is("none free", x.mend(0, 0, 0), 0);
        // two DOORS: both dearer from 0 on, so that the one with most to walk goes to the garage
        LastPlace y = with("doors 1 free 50 price 0;doors 1 free 50 price 900;drive 0;garage 100;", 45, 0, 0, 0);
        Due.is("x 0", y.mend(0, 3, 0), 2);
        Due.is("x 1: DOOR 0 is no dearer", y.mend(0, 3, 1), 0);
        LastPlace z = with("doors 24 free 50 price 0;drive 0;garage 999;", 15, 0, 99, 0);
        // the last DOOR, and the one ahead: the first leaves it when 10 p is more than its 15
        Due.is("x 23", z.mend(0, 3 << 22, 23), 2);
        Due.is("x 22: both are dearer", z.mend(0, 3 << 22, 22), 0);
        Due.is("x 0: both are dearer", z.mend(0, 3 << 22, 0), 0);
        for (int none : new int[] {-1, 24, LEAST_INT, GREATEST_INT}) {
            Due.is("x " + none, z.mend(0, 0, none), UNKNOWN);
            Due.is("x " + none + " in another SET", z.mend(0, -1, none), UNKNOWN);
        }
    }

    /** "BARS stay as they are"; from all 0, whatever they are; "COST and LOST without what is paid more then". */
    private static void mendLeavesAll() {
        for (int bar : new int[] {0, 1, 2, 24}) {
            LastPlace x = with("doors 1 free 50 price 191;doors 1 free 50 price 0;drive 0;garage 999;", 0, bar, 99, bar);
            int lost = x.lost(0, 3);
            Due.is("from " + bar, x.mend(0, 3, 1), 20);
            Due.is("the first one's BAR", x.steer(0, bar), bar);
            Due.is("the second one's BAR", x.steer(1, bar), bar);
            Due.is("LOST is as it was", x.lost(0, 3), lost);
            Due.is("no price is left", x.turn(0, 3), 1);
            Due.is("the first one at DOOR 1", x.parks(0, 3, 0, 0), 1);
            Due.is("for nothing more", x.parks(0, 3, 0, 1), 0);
        }
        // nor is it left where a DOOR is but little less than the garage
        LastPlace z = with("doors 1 free 50 price 0;drive 0;garage 50;", 10, 0);
        Due.is("nothing to mend", z.mend(0, 1, 0), 0);
        Due.is("at rest", z.rests(0, 1), 1);
        Due.is("one row of BARS", z.allRests(0, 1), 1);
        Due.is("no turn", z.turn(0, 1), 0);
        // the dearer DOOR would be too much to be paid for what it mends, but that does not count
        LastPlace y = with("doors 1 free 50 price 100;doors 1 free 50 price 0;drive 0;garage 999;", 0, 0, 99, 0);
        Due.is("p 10, though the second one pays 100 more", y.mend(0, 3, 1), 10);
    }

    /** "BARS that are found BY TURNS from all 0": each DOOR is like for the first CAR, so that its own BAR would stay. */
    private static void mendFromAll0() {
        for (int bar = 0; bar <= 1; bar++) {
            // walk 1, drive 1: 2 at either DOOR; the second CAR has 100 at DOOR 1, 198 at DOOR 0
            LastPlace x = with("doors 2 free 50 price 0;drive 1;garage 999;", 1, bar, 99, 0);
            Due.is("its own stays, from " + bar, x.turn(0, 3), 0);
            Due.is("LOST, from " + bar, x.lost(0, 3), bar == 0 ? 0 : 98000);
            Due.is("from all 0 there is nothing to mend, whatever BARS are: " + bar, x.mend(0, 3, 1), 0);
            Due.is("BARS stay", x.steer(0, bar), bar);
        }
    }
}
