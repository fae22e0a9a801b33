/** The edges of part 3 of the document, sentence by sentence: RULES, MEAN, LATE, GARAGE, THE ROW, JUDGED, THOUGHT. */
public final class RuleEdgesTest {
    private static final int NONE = LastPlace.NONE, UNKNOWN = LastPlace.UNKNOWN, OUTSIDE = LastPlace.OUTSIDE;
    private static final int NOT = LastPlace.NOT, FULL = LastPlace.FULL;
    private static final int LEAST_INT = Integer.MIN_VALUE, GREATEST_INT = Integer.MAX_VALUE;

    /** All 24 DOORS are free, and each costs 1000 less than the one ahead: what a drive costs tells where it ended. */
    private static final String ALL_FREE = "doors 24 free 100 price 0;walk 1;drive 0;garage 200;";

    public static void main(String[] args) {
        fourRules();
        eightyBytes();
        eachNumberAtItsBounds();
        eachMoreThanTheOneAhead();
        theEndOfEachPart();
        whatCannotStand();
        atBOrBehindIt();
        noMoreThanWerePassed();
        theLastSeenThatCounts();
        passedInThisRound();
        lessThanBothTimes();
        lateAboveTheCurtain();
        rowOf24();
        rowEmptyOrTooLong();
        sightsNotAllTold();
        wrongAtTheLast();
        judgedInItsRound();
        thoughtOfNothing();
        thoughtAsFarAsBothHaveIt();
        thoughtWhereBothAre0();
        thoughtIsCut();
        Due.close();
    }

    /** "RULES (4 at most)"; "FULL (THE TEXT stays, of both)"; "What has a number has it from 0 on, as it comes". */
    private static void fourRules() {
        LastPlace x = Due.with(ALL_FREE);
        for (int k = 0; k < 4; k++) {
            Due.is("a rule with a fault has no number", Due.rule(x, "from 25"), -12);
            Due.is("not there yet", x.mean(0, k, 0), UNKNOWN);
            Due.is("rule " + k, Due.rule(x, "from " + (20 - k)), k);
            Due.is("it is empty then", x.count(4), 0);
            Due.is("so many", x.count(0), k + 1);
        }
        Due.text(x, "from 0");
        Due.is("a fifth", x.rule(), FULL);
        Due.is("THE TEXT stays", x.count(4), 6);
        Due.is("still four", x.count(0), 4);
        for (int k = 0; k < 4; k++) {
            Due.is("rule " + k + " is as it was", x.mean(0, k, 0), (4 + k) * 1000);
        }
        Due.is("a street's text that it may be yet", x.street(1), -11);
        Due.is("FULL ahead of a fault", Due.rule(x, "fro"), FULL);
        Due.is("FULL, of an empty text", Due.street(x, 1, "x") + x.rule(), -11 + FULL);
        for (int rule : new int[] {-1, 4, LEAST_INT, GREATEST_INT}) {
            Due.is("mean of " + rule, x.mean(0, rule, 0), UNKNOWN);
            Due.is("evening of " + rule, x.evening(0, rule, 1), UNKNOWN);
        }
        for (int what : new int[] {-1, 3, LEAST_INT, GREATEST_INT}) {
            Due.is("mean, what " + what, x.mean(0, 0, what), OUTSIDE);
        }
    }

    /** "80 bytes at most"; "NOT: more than 80 bytes". */
    private static void eightyBytes() {
        Due.is("80 bytes", Due.rule(new LastPlace(), "from 1 round" + " ".repeat(67) + "3"), 0);
        for (int size : new int[] {81, 82, 240}) {
            LastPlace x = new LastPlace();
            Due.text(x, "from 1 round" + " ".repeat(size - 13) + "3");
            Due.is(size + " bytes", x.rule(), NOT);
            Due.is("THE TEXT stays", x.count(4), size);
            Due.is("no rule", x.count(0), 0);
            Due.is("no fault", x.fault(), NONE);
            Due.is("it is a street's text yet", x.street(0), -11);
            Due.is("a rule behind it", Due.rule(x, "from 1"), 0);
        }
        LastPlace x = Due.with(ALL_FREE);
        Due.is("80 bytes with a fault at the end", Due.rule(x, "from" + " ".repeat(76)), -11);
        Due.is("where", x.fault(), 80);
        // as much as 80 bytes can tell: seven 'seen'
        String most = "from24seen1from9seen2from9seen3from9seen4from9seen5from9seen6from9seen7from0";
        Due.is("seven 'seen'", Due.rule(x, most), 0);
        Due.is("by the seventh", x.mean(0, 0, 0), 17000);
    }

    /** "B 0 .. 24, M 1 .. 24, K 0 .. 3. FAULTS 1, 2 as told." */
    private static void eachNumberAtItsBounds() {
        Object[][] numbers = {{"from ", 0, 24, ""}, {"from 1 seen ", 1, 24, " from 1"}, {"from 1 seen 1 from ", 0, 24, ""},
            {"from 1 seen 1 from 1 seen 2 from ", 0, 24, " round 1"}, {"from 1 round ", 0, 3, ""}};
        for (Object[] number : numbers) {
            String ahead = "" + number[0];
            String behind = "" + number[3];
            int least = (Integer) number[1];
            int most = (Integer) number[2];
            for (String value : new String[] {"" + least, "" + most, "00" + (least + 1), "0" + least}) {
                Due.is(ahead + value + behind, Due.rule(new LastPlace(), ahead + value + behind), 0);
            }
            for (String value : new String[] {"" + (most + 1), "999", "1000", "0001", "4294967297"}) {
                Due.ruleFault(ahead + value + behind, 2, ahead.length());
            }
            if (least > 0) {
                Due.ruleFault(ahead + (least - 1) + behind, 2, ahead.length());
            }
            Due.ruleFault(ahead + "-1" + behind, 1, ahead.length());
            Due.ruleFault(ahead + "x" + behind, 1, ahead.length());
            Due.ruleFault(ahead, 1, ahead.length());
            Due.ruleFault(ahead + "1 1" + behind, 1, ahead.length() + 2);
        }
    }

    /** "each more than the one ahead, else 3 at it"; where it is out of its bounds, too, it is 2. */
    private static void eachMoreThanTheOneAhead() {
        int[][] rising = {{1, 2}, {23, 24}, {1, 24}, {1, 2, 3, 24}};
        for (int[] ms : rising) {
            Due.is("rising", Due.rule(new LastPlace(), seen(ms)), 0);
        }
        int[][] others = {{1, 1}, {2, 1}, {24, 24}, {24, 1}, {1, 2, 2}, {1, 3, 2}, {5, 9, 5}, {5, 9, 24, 23}};
        for (int[] ms : others) {
            String text = seen(ms);
            int where = text.lastIndexOf("seen ") + 5;
            Due.ruleFault(text, 3, where);
            Due.ruleFault(text.substring(0, where) + "  " + text.substring(where), 3, where + 2);
            Due.ruleFault(text + " x", 3, where);
            Due.ruleFault(text.substring(0, where) + "0", 2, where);
            Due.ruleFault(text.substring(0, where) + "25", 2, where);
            Due.ruleFault(text.substring(0, where) + "0001", 2, where);
            Due.ruleFault(text.substring(0, where) + "x", 1, where);
            Due.ruleFault(text.substring(0, where), 1, where);
        }
        Due.ruleFault("from 1 seen 2 from 1 seen 02 from 1", 3, 26);
        Due.ruleFault("from 1 seen 2 from 25 seen 2 from 1", 2, 19);
    }

    private static String seen(int[] ms) {
        StringBuilder text = new StringBuilder("from 1");
        for (int m : ms) {
            text.append(" seen ").append(m).append(" from 1");
        }
        return text.toString();
    }

    /** A text that ends early: 1 at its length (a cut word: at its first letter), but where a RULE may end. */
    private static void theEndOfEachPart() {
        String whole = "from 1 seen 2 from 3 seen 4 from 5 round 2";
        for (int size = 0; size <= whole.length(); size++) {
            String text = whole.substring(0, size);
            boolean may = text.matches("(from 1 ?|.*(from 3|from 5) ?|.*round 2)");
            int wordAt = size;
            while (wordAt > 0 && Character.isLetter(whole.charAt(wordAt - 1))) {
                wordAt--;
            }
            boolean wordIsCut = wordAt < size && Character.isLetter(whole.charAt(size));
            if (may) {
                Due.is("'" + text + "'", Due.rule(new LastPlace(), text), 0);
            } else {
                Due.ruleFault(text, 1, wordIsCut ? wordAt : size);
            }
        }
    }

    private static void whatCannotStand() {
        for (String word : new String[] {"doors", "free", "price", "alike", "times", "garage", "fromm", "fro", "FROM", "seen", "round"}) {
            Due.ruleFault(" " + word + " 1", 1, 1);
        }
        for (String behind : new String[] {";", "-", ".", "1", "from 2", "doors", "seenx 2 from 1", "rounds 1", "times 1", "" + (char) 233}) {
            Due.ruleFault("from 1 " + behind, 1, 7);
        }
        Due.ruleFault("from 1 round 1 round 1", 1, 15);
        Due.ruleFault("from 1 round 1 seen 1 from 1", 1, 15);
        Due.ruleFault("from 1 round 1;", 1, 14);
        Due.ruleFault("from 1 seen 1 seen 2", 1, 14);
        Due.ruleFault("from 1 seen 1 from 1 from", 1, 21);
        Due.ruleFault("fromseen 1", 1, 0);
    }

    /** "takes the first free DOOR i with i at B or behind it": B at 0, at the last DOOR, at n, behind n. */
    private static void atBOrBehindIt() {
        for (int b = 0; b <= 24; b++) {
            LastPlace x = Due.with(ALL_FREE);
            Due.rule(x, "from " + b);
            int cost = b < 24 ? 24 - b : 200;
            Due.is("from " + b, x.mean(0, 0, 0), cost * 1000);
            Due.is("from " + b + ", the garage", x.mean(0, 0, 2), b < 24 ? 0 : 1000000);
            Due.is("from " + b + ", an evening", x.evening(0, 0, 1), cost);
            Due.street(x, 1, "doors 3 free 100 price 0;walk 1;drive 0;garage 200;");
            Due.is("from " + b + " of 3", x.mean(1, 0, 0), b < 3 ? (3 - b) * 1000 : 200000);
            Due.is("from " + b + " of 3, an evening", x.evening(1, 0, 1), b < 3 ? 3 - b : 200);
        }
        // B is not free: the first that is, behind it
        LastPlace y = Due.with("doors 2 free 100 price 0;doors 2 free 0 price 0;doors 2 free 100 price 0;walk 1;drive 0;garage 200;");
        Due.rule(y, "from 2");
        Due.is("behind it", y.mean(0, 0, 0), 2000);
        // one drives by the RULE, though the DOOR ahead of B is for nothing and those behind are dearer than the garage
        LastPlace z = Due.with("doors 1 free 100 price 0;doors 1 free 100 price 50;walk 0;drive 0;garage 40;");
        Due.rule(z, "from 1");
        Due.is("by the RULE", z.mean(0, 0, 0), 50000);
        Due.is("by the RULE, an evening", z.evening(0, 0, 1), 50);
    }

    /** "whose M is no more than how many free DOORS were passed": at M passed it counts, at one less it does not. */
    private static void noMoreThanWerePassed() {
        for (int m = 1; m <= 24; m++) {
            LastPlace x = Due.with(ALL_FREE);
            Due.rule(x, "from 24 seen " + m + " from 0");
            int cost = m < 24 ? 24 - m : 200;
            Due.is("seen " + m, x.mean(0, 0, 0), cost * 1000);
            Due.is("seen " + m + ", an evening", x.evening(0, 0, 1), cost);
        }
        // DOORS that are not free do not count: 5 taken ones ahead
        LastPlace y = Due.with("doors 5 free 0 price 0;doors 5 free 100 price 0;walk 1;drive 0;garage 200;");
        Due.rule(y, "from 24 seen 1 from 0");
        Due.rule(y, "from 24 seen 5 from 0");
        Due.is("the second free one", y.mean(0, 0, 0), 4000);
        Due.is("five were passed at the end alone", y.mean(0, 1, 0), 200000);
    }

    private static void theLastSeenThatCounts() {
        String[] rules = {"from 24 seen 1 from 24 seen 2 from 0", "from 24 seen 1 from 0 seen 2 from 24", "from 24 seen 1 from 5 seen 3 from 20",
            "from 0 seen 1 from 24", "from 2 seen 1 from 9", "from 24 seen 3 from 3", "from 24 seen 3 from 4"};
        int[] doors = {2, 1, 20, 0, 9, 3, 4};
        for (int k = 0; k < rules.length; k++) {
            LastPlace x = Due.with(ALL_FREE);
            Due.rule(x, rules[k]);
            Due.is(rules[k], x.mean(0, 0, 0), (24 - doors[k]) * 1000);
            Due.is(rules[k] + ", an evening", x.evening(0, 0, 1), 24 - doors[k]);
        }
    }

    /** "how many free DOORS were passed in this ROUND": not those of the ROUND ahead. */
    private static void passedInThisRound() {
        LastPlace x = Due.with("doors 3 free 100 price 0;walk 1;drive 0;round 0 times 3;garage 200;");
        Due.rule(x, "from 24 seen 3 from 0 round 3");
        Due.rule(x, "from 24 seen 2 from 0 round 3");
        Due.is("three in each ROUND", x.mean(0, 0, 0), 200000);
        Due.is("three in each ROUND, an evening", x.evening(0, 0, 1), 200);
        Due.is("two in the first", x.mean(0, 1, 0), 1000);
    }

    /** "ROUND, if r is less than K of the RULE and of the STREET, else the garage"; without 'round' K is 0. */
    private static void lessThanBothTimes() {
        for (int times = 0; times <= 3; times++) {
            LastPlace x = Due.with("doors 2 free 0 price 0;drive 1;late 0;round 4 times " + times + ";garage 50;");
            for (int k = 0; k <= 3; k++) {
                Due.rule(x, "from 0 round " + k);
                int rounds = Math.min(k, times);
                int cost = 2 * (rounds + 1) + 4 * rounds + 50;
                Due.is("round " + k + " of " + times, x.mean(0, k, 0), cost * 1000);
                Due.is("round " + k + " of " + times + ", an evening", x.evening(0, k, 1), cost);
                Due.is("round " + k + " of " + times + ", the garage", x.mean(0, k, 2), 1000000);
            }
            LastPlace y = Due.with("doors 2 free 0 price 0;drive 1;late 0;round 4 times " + times + ";garage 50;");
            Due.rule(y, "from 0");
            Due.is("without 'round'", y.mean(0, 0, 0), 52000);
            Due.is("without 'round', an evening", y.evening(0, 0, 1), 52);
            Due.is("a fault behind 'round'", Due.rule(y, "from 0 seen 1 from 1 round 3 x"), -11);
            Due.is("a rule in its place", Due.rule(y, "from 0"), 1);
            Due.is("without 'round', too", y.mean(0, 1, 0), 52000);
        }
    }

    /** LATE: "TICK and n less i above T; garage: its TICK above T": ROUNDS end at 1, 6, 11, 16, half of the rest parks in each. */
    private static void lateAboveTheCurtain() {
        int[][] cases = {{0, 1000000}, {1, 500000}, {5, 500000}, {6, 250000}, {10, 250000}, {11, 125000}, {15, 125000}, {16, 0}, {17, 0}, {200, 0}};
        for (int[] c : cases) {
            LastPlace x = Due.with("doors 1 free 50 price 0;round 4 times 3;curtain " + c[0] + ";");
            Due.rule(x, "from 0 round 3");
            Due.rule(x, "from 1 round 3");
            Due.is("curtain " + c[0], x.mean(0, 0, 1), c[1]);
            Due.is("curtain " + c[0] + ", by the garage", x.mean(0, 1, 1), c[0] < 16 ? 1000000 : 0);
            Due.is("the garage", x.mean(0, 0, 2), 62500);
        }
        for (int curtain = 4; curtain <= 6; curtain++) {
            LastPlace y = Due.with("doors 5 free 100 price 0;curtain " + curtain + ";");
            Due.rule(y, "from 0");
            Due.rule(y, "from 4");
            Due.is("the first DOOR, curtain " + curtain, y.mean(0, 0, 1), curtain < 5 ? 1000000 : 0);
            Due.is("the last DOOR, curtain " + curtain, y.mean(0, 1, 1), curtain < 5 ? 1000000 : 0);
            Due.is("never the garage", y.mean(0, 0, 2), 0);
        }
    }

    /** "24 at most"; "FULL". */
    private static void rowOf24() {
        LastPlace x = Due.with("doors 24 free 50 price 0;walk 0;drive 1;see 2;garage 80;");
        Due.street(x, 1, "doors 23 free 50 price 0;walk 0;drive 1;see 2;garage 80;");
        for (int k = 1; k <= 24; k++) {
            Due.is("saw", x.saw(k == 24), k);
        }
        for (boolean free : new boolean[] {true, false}) {
            Due.is("a 25th", x.saw(free), FULL);
            Due.is("24", x.count(1), 24);
            Due.is("one is free", x.count(2), 1);
        }
        Due.is("the last one passed", x.judge(0, 0, false), 23);
        Due.is("the last one TAKEN", x.judge(0, 0, true), NONE);
        Due.is("longer than 23", x.judge(1, 0, true), NOT);
        Due.is("clear", x.clear(), 24);
        Due.is("clear again", x.clear(), 0);
        Due.is("none", x.count(1) + x.count(2), 0);
        for (int k = 1; k <= 24; k++) {
            x.saw(true);
        }
        Due.is("24 free ones", x.count(2), 24);
    }

    /** "NOT: THE ROW is empty, or longer than the STREET, or the last one is taken, but not free"; "OUTSIDE (r)". */
    private static void rowEmptyOrTooLong() {
        LastPlace x = Due.with("doors 2 free 50 price 0;round 1 times 1;");
        Due.is("empty", x.judge(0, 0, false), NOT);
        Due.is("empty, taken", x.judge(0, 0, true), NOT);
        for (int r : new int[] {-1, 2, LEAST_INT, GREATEST_INT}) {
            Due.is("empty, but ROUND " + r, x.judge(0, r, false), OUTSIDE);
            Due.is("no STREET, ROUND " + r, x.judge(1, r, false), UNKNOWN);
        }
        x.saw(false);
        Due.is("one, not free, passed", x.judge(0, 1, false), NONE);
        Due.is("one, not free, taken", x.judge(0, 1, true), NOT);
        Due.is("one, not free, taken in no ROUND", x.judge(0, 2, true), OUTSIDE);
        x.saw(true);
        Due.is("as long as the STREET", x.judge(0, 0, true), NONE);
        Due.is("as long as the STREET, passed", x.judge(0, 0, false), 1);
        x.saw(true);
        Due.is("longer", x.judge(0, 0, true), NOT);
        Due.is("longer, passed", x.judge(0, 0, false), NOT);
        for (int s : new int[] {-1, 1, 2, 3, LEAST_INT, GREATEST_INT}) {
            Due.is("no STREET " + s, x.judge(s, 0, true), UNKNOWN);
        }
        Due.is("THE ROW stays", x.count(1), 3);
    }

    private static void see(LastPlace x, String row) {
        x.clear();
        for (int k = 0; k < row.length(); k++) {
            x.saw(row.charAt(k) == '1');
        }
    }

    /** "DOORS whose SIGHT is not all told in THE ROW are not looked at": at the end fewer DOORS are to be seen. */
    private static void sightsNotAllTold() {
        // every free DOOR is to be taken
        LastPlace x = Due.with("doors 5 free 50 price 0;walk 0;drive 1;see 2;garage 80;");
        String[] rows = {"1", "11", "111", "1111", "001", "0011", "0010", "00111", "0001", "00010", "00001", "0110", "0100", "01"};
        int[] passed = {NONE, NONE, 0, 0, NONE, NONE, NONE, 2, NONE, 3, 4, 1, 1, NONE};
        for (int k = 0; k < rows.length; k++) {
            see(x, rows[k]);
            Due.is(rows[k] + ", all passed", x.judge(0, 0, false), passed[k]);
        }
        // none is to be taken: only the last one can be wrong, if it was
        LastPlace y = Due.with("doors 5 free 50 price 99;walk 0;drive 0;see 2;garage 0;");
        for (String row : new String[] {"1", "11", "111", "1111", "11111"}) {
            see(y, row);
            Due.is(row + ", the last TAKEN", y.judge(0, 0, true), row.length() == 5 ? 4 : NONE);
            Due.is(row + ", all passed", y.judge(0, 0, false), NONE);
        }
        // see 0: each DOOR's SIGHT is told with it
        LastPlace z = Due.with("doors 5 free 50 price 0;walk 0;drive 1;see 0;garage 80;");
        see(z, "1");
        Due.is("see 0, passed", z.judge(0, 0, false), 0);
        Due.is("see 0, TAKEN", z.judge(0, 0, true), NONE);
    }

    /** "the first DOOR at which the best way does the other": of several the first; "of a DOOR that is not free only passing". */
    private static void wrongAtTheLast() {
        LastPlace x = Due.with("doors 4 free 50 price 0;walk 0;drive 1;see 0;garage 80;");
        String[] rows = {"0000", "0001", "0101", "1111", "0011"};
        int[] passed = {NONE, 3, 1, 0, 2};
        int[] taken = {NOT, NONE, 1, 0, 2};
        for (int k = 0; k < rows.length; k++) {
            see(x, rows[k]);
            Due.is(rows[k] + " passed", x.judge(0, 0, false), passed[k]);
            Due.is(rows[k] + " TAKEN", x.judge(0, 0, true), taken[k]);
        }
    }

    /** "JUDGED in a STREET in ROUND r": by the best way of that ROUND. */
    private static void judgedInItsRound() {
        LastPlace x = Due.with("doors 1 free 100 price 40;doors 1 free 50 price 0;walk 0;drive 0;see 0;round 0 times 1;garage 100;");
        see(x, "1");
        Due.is("DOOR 0 is not to be taken in ROUND 0", x.judge(0, 0, true), 0);
        Due.is("but to be passed", x.judge(0, 0, false), NONE);
        Due.is("DOOR 0 is to be taken in ROUND 1", x.judge(0, 1, true), NONE);
        Due.is("not to be passed", x.judge(0, 1, false), 0);
    }

    /** "w of STREET a, v of STREET b are 500000 at first". */
    private static void thoughtOfNothing() {
        LastPlace x = Due.with("doors 1 free 0 price 0;");
        Due.street(x, 2, "doors 24 free 100 price 0;");
        Due.is("THE ROW is empty", x.thought(0, 2), 500000);
        Due.is("by itself", x.thought(2, 2), 500000);
        for (int none : new int[] {-1, 1, 3, LEAST_INT, GREATEST_INT}) {
            Due.is("thought(0, " + none + ")", x.thought(0, none), UNKNOWN);
            Due.is("thought(" + none + ", 0)", x.thought(none, 0), UNKNOWN);
        }
    }

    /** "for each DOOR of THE ROW (as far as both have it)": behind the end of the shorter one nothing is thought. */
    private static void thoughtAsFarAsBothHaveIt() {
        LastPlace x = Due.with("doors 1 free 25 price 0;");
        Due.street(x, 1, "doors 1 free 75 price 0;doors 23 free 0 price 0;");
        x.saw(true);
        // 125000 and 375000: 333333 and 1000000
        Due.is("one DOOR", x.thought(0, 1), (int) (333333L * 1000000 / 1333333));
        Due.is("one DOOR, the other way", x.thought(1, 0), (int) (1000000L * 1000000 / 1333333));
        int one = x.thought(0, 1);
        for (int k = 2; k <= 24; k++) {
            x.saw(true);
            Due.is("no further, " + k, x.thought(0, 1), one);
        }
    }

    /** "if that is above 0"; "(0, if both are 0)". */
    private static void thoughtWhereBothAre0() {
        LastPlace x = Due.with("doors 1 free 0 price 0;doors 1 free 60 price 0;");
        Due.street(x, 1, "doors 1 free 0 price 0;doors 1 free 20 price 0;");
        Due.street(x, 2, "doors 2 free 100 price 0;");
        x.saw(true);
        Due.is("both are 0", x.thought(0, 1), 0);
        Due.is("both are 0, the other way", x.thought(1, 0), 0);
        Due.is("only w is 0", x.thought(0, 2), 0);
        Due.is("only v is 0", x.thought(2, 0), 1000000);
        x.saw(true);
        Due.is("they stay 0", x.thought(0, 1), 0);
        Due.is("by itself", x.thought(0, 0), 0);
        x.clear();
        x.saw(false);
        Due.is("not free: of 100 it is 0", x.thought(2, 0), 0);
        Due.is("not free: of 0 it is all", x.thought(0, 2), 1000000);
        Due.is("not free: alike", x.thought(0, 1), 500000);
    }

    /** "(cut)": halves of 1000000 cut each, until nothing is left at the 20th DOOR. */
    private static void thoughtIsCut() {
        LastPlace x = Due.with("doors 24 free 100 price 0;");
        Due.street(x, 1, "doors 24 free 50 price 0;");
        int v = 1000000;
        for (int k = 1; k <= 24; k++) {
            x.saw(true);
            v /= 2;
            Due.is(k + " free ones", x.thought(0, 1), (int) (1000000000000L / (1000000 + v)));
            Due.is(k + " free ones, the other way", x.thought(1, 0), (int) (v * 1000000L / (1000000 + v)));
        }
        // 1 is left of v at the 19th; at the 20th w is 0, so that the greater is 1, and v is all from there on
        LastPlace y = Due.with("doors 19 free 100 price 0;doors 5 free 0 price 0;");
        Due.street(y, 1, "doors 19 free 50 price 0;doors 1 free 100 price 0;doors 4 free 50 price 0;");
        for (int k = 1; k <= 24; k++) {
            y.saw(true);
            Due.is(k + " free ones, at most 19", y.thought(0, 1) == 0 ? 1 : 0, k < 20 ? 0 : 1);
            Due.is(k + " free ones, the other one is all", y.thought(1, 0) == 1000000 ? 1 : 0, k < 20 ? 0 : 1);
        }
    }
}
