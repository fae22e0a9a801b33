/** Promises 16 to 21: rule, mean, saw, clear, judge, thought. */
public final class RulesTest {
    private static final int NONE = LastPlace.NONE, UNKNOWN = LastPlace.UNKNOWN, OUTSIDE = LastPlace.OUTSIDE;
    private static final int NOT = LastPlace.NOT, FULL = LastPlace.FULL;

    public static void main(String[] args) {
        rule();
        faults();
        mean();
        meanByWhatWasPassed();
        meanOverRounds();
        row();
        judge();
        thought();
        Due.close();
    }

    private static void rule() {
        LastPlace x = new LastPlace();
        Due.is("rule 0", Due.rule(x, "from 0"), 0);
        Due.is("the text is empty", x.count(4), 0);
        Due.is("a fault is no rule", Due.rule(x, "from 0."), -11);
        Due.is("rule 1", Due.rule(x, "  from24seen1from24seen24from0round3  "), 1);
        Due.is("80 bytes", Due.rule(x, "from 1" + " ".repeat(74)), 2);
        Due.text(x, "from 1" + " ".repeat(75));
        Due.is("81 bytes", x.rule(), NOT);
        Due.is("the text stays", x.count(4), 81);
        x.street(0);
        Due.is("rule 3", Due.rule(x, "from 1seen 1from 1seen 2from 1seen 3from 1seen 4from 1seen 5from 1seen 6from 1"), 3);
        Due.is("four", x.count(0), 4);
        Due.text(x, "from 1");
        Due.is("a fifth", x.rule(), FULL);
        Due.is("the text stays", x.count(4), 6);
        Due.text(x, " ".repeat(75));
        Due.is("NOT ahead of FULL", x.rule(), NOT);
        Due.is("the text stays", x.count(4), 81);
        Due.is("still four", x.count(0), 4);
    }

    private static void faults() {
        Due.ruleFault("", 1, 0);
        Due.ruleFault("  ", 1, 2);
        Due.ruleFault("round 1", 1, 0);
        Due.ruleFault("seen 1 from 1", 1, 0);
        Due.ruleFault("from", 1, 4);
        Due.ruleFault("from seen", 1, 5);
        Due.ruleFault("fromm 1", 1, 0);
        Due.ruleFault("from 1;", 1, 6);
        Due.ruleFault("from 1 2", 1, 7);
        Due.ruleFault("from 1 from 2", 1, 7);
        Due.ruleFault("from 1 seen", 1, 11);
        Due.ruleFault("from 1 seen 2", 1, 13);
        Due.ruleFault("from 1 seen 2 round 1", 1, 14);
        Due.ruleFault("from 1 round 1 seen 2 from 3", 1, 15);
        Due.ruleFault("from 1 round 1 round 1", 1, 15);
        Due.ruleFault("from 1 round", 1, 12);
        Due.ruleFault("from -1", 1, 5);
        Due.ruleFault("from 1 doors", 1, 7);
        Due.ruleFault("from 25", 2, 5);
        Due.ruleFault("from 0001", 2, 5);
        Due.ruleFault("from 1 seen 0 from 1", 2, 12);
        Due.ruleFault("from 1 seen 25 from 1", 2, 12);
        Due.ruleFault("from 1 seen 2 from 25", 2, 19);
        Due.ruleFault("from 1 round 4", 2, 13);
        Due.ruleFault("from 1 seen 2 from 2 seen 2 from 1", 3, 26);
        Due.ruleFault("from 1 seen 2 from 2 seen 1 from 1", 3, 26);
        Due.ruleFault("from 1 seen 2 from 2 seen 1", 3, 26);
        Due.ruleFault("from 1 seen 2 from 2 seen 0 from 1", 2, 26);
        LastPlace x = new LastPlace();
        Due.rule(x, "from 1 seen 9 from 2 seen 9 from 1");
        Due.is("nothing of a fault is left", Due.rule(x, "from 1 seen 1 from 2"), 0);
    }

    private static void mean() {
        LastPlace x = Due.with("doors 2 free 33 price 0;alike 20;walk 3;drive 2;curtain 1;late 5;garage 40;");
        Due.rule(x, "from 0");
        Due.rule(x, "from 1");
        Due.rule(x, "from 2");
        // one is 1 late: TAKING 11000, 8000, the garage 45000; behind a free DOOR 53, behind a taken one 13
        int lastTaken = (13 * 8000 + 87 * 47000) / 100;
        int lastFree = (53 * 8000 + 47 * 47000) / 100;
        Due.is("from 0", x.mean(0, 0, 0), (33 * 11000 + 67 * (2000 + lastTaken)) / 100);
        Due.is("from 1", x.mean(0, 1, 0), (33 * (2000 + lastFree) + 67 * (2000 + lastTaken)) / 100);
        Due.is("from 2", x.mean(0, 2, 0), 49000);
        Due.is("always late", x.mean(0, 0, 1), 1000000);
        Due.is("garage from 0", x.mean(0, 0, 2), 67 * 870000 / 100);
        Due.is("garage from 1", x.mean(0, 1, 2), (33 * 470000 + 67 * 870000) / 100);
        Due.is("garage from 2", x.mean(0, 2, 2), 1000000);
        Due.is("mean(1, 0, 0)", x.mean(1, 0, 0), UNKNOWN);
        Due.is("mean(0, 3, 0)", x.mean(0, 3, 0), UNKNOWN);
        Due.is("mean(0, -1, 0)", x.mean(0, -1, 0), UNKNOWN);
        Due.is("mean(0, 3, 3)", x.mean(0, 3, 3), UNKNOWN);
        Due.is("mean(0, 0, 3)", x.mean(0, 0, 3), OUTSIDE);
        Due.is("mean(0, 0, -1)", x.mean(0, 0, -1), OUTSIDE);
        Due.street(x, 1, "doors 2 free 33 price 0;curtain 2;");
        Due.is("at the curtain one is not late", x.mean(1, 0, 1), 0);
    }

    /** All DOORS free: what is taken is told by the rule alone. */
    private static void meanByWhatWasPassed() {
        LastPlace x = Due.with("doors 10 free 100 price 0;walk 1;drive 0;curtain 200;");
        String[] rules = {"from 9 seen 3 from 5", "from 9 seen 3 from 5 seen 4 from 7", "from 24 seen 2 from 24", "from 0 seen 1 from 9"};
        int[] doors = {5, 7, NONE, 0};
        for (int k = 0; k < rules.length; k++) {
            Due.rule(x, rules[k]);
            int cost = doors[k] == NONE ? 200000 : 1000 * (10 - doors[k]);
            Due.is(rules[k], x.mean(0, k, 0), cost);
            Due.is(rules[k] + ", an evening", x.evening(0, k, 1), cost / 1000);
        }
        // none ahead of the bar that counts at once: 3 are passed at DOOR 3, and 3 is behind 2
        LastPlace y = Due.with("doors 10 free 100 price 0;walk 1;drive 0;curtain 200;");
        Due.rule(y, "from 9 seen 3 from 2");
        Due.is("at DOOR 3", y.mean(0, 0, 0), 7000);
        // taken DOORS are not passed free ones
        Due.street(y, 0, "doors 4 free 0 price 0;doors 6 free 100 price 0;walk 1;drive 0;curtain 200;");
        Due.is("at DOOR 7", y.mean(0, 0, 0), 3000);
    }

    private static void meanOverRounds() {
        LastPlace x = Due.with("doors 1 free 50 price 0;walk 1;drive 1;late 5;curtain 5;round 4 times 2;garage 100;");
        Due.rule(x, "from 0");
        Due.rule(x, "from 0 round 1");
        Due.rule(x, "from 0 round 3");
        // ROUND r ends at 5 r and 1: 1, 6, 11; TAKING 1000, 6000, 31000; garage 100000, 105000, 130000
        Due.is("no round", x.mean(0, 0, 0), (50 * 1000 + 50 * 101000) / 100);
        int round1 = (50 * 6000 + 50 * 106000) / 100;
        Due.is("one round", x.mean(0, 1, 0), (50 * 1000 + 50 * (1000 + 4000 + round1)) / 100);
        int round2 = (50 * 31000 + 50 * 131000) / 100;
        int round1of2 = (50 * 6000 + 50 * (5000 + round2)) / 100;
        Due.is("two rounds, as the street has no more", x.mean(0, 2, 0), (50 * 1000 + 50 * (5000 + round1of2)) / 100);
        Due.is("late by no round", x.mean(0, 0, 1), 0);
        Due.is("late by one round", x.mean(0, 1, 1), 500000);
        Due.is("garage by two rounds", x.mean(0, 2, 2), 125000);
        // what was passed counts by ROUND: free ones of the first are forgotten
        Due.street(x, 1, "doors 2 free 100 price 0;walk 1;drive 1;curtain 200;round 0 times 1;garage 100;");
        Due.rule(x, "from 24 seen 2 from 0 round 1");
        Due.is("passed in this ROUND", x.mean(1, 3, 2), 1000000);
        Due.is("passed in this ROUND, its cost", x.mean(1, 3, 0), 104000);
        Due.is("passed in this ROUND, an evening", x.evening(1, 3, 1), 104);
    }

    private static void row() {
        LastPlace x = new LastPlace();
        Due.is("clear of none", x.clear(), 0);
        for (int k = 1; k <= 24; k++) {
            Due.is("saw", x.saw(k % 3 == 0), k);
        }
        Due.is("count(1)", x.count(1), 24);
        Due.is("count(2)", x.count(2), 8);
        Due.is("a 25th", x.saw(true), FULL);
        Due.is("count(2)", x.count(2), 8);
        Due.is("clear", x.clear(), 24);
        Due.is("count(1)", x.count(1), 0);
        Due.is("count(2)", x.count(2), 0);
        Due.is("saw", x.saw(true), 1);
    }

    private static void see(LastPlace x, String row) {
        x.clear();
        for (int k = 0; k < row.length(); k++) {
            x.saw(row.charAt(k) == '1');
        }
    }

    private static void judge() {
        // see 1: taken with the next one taken, not taken with the next one free (but for the last)
        LastPlace x = Due.with("doors 4 free 33 price 1;walk 2;drive 1;see 1;garage 50;round 1 times 1;");
        see(x, "0");
        Due.is("0 passed", x.judge(0, 0, false), NONE);
        Due.is("0 taken", x.judge(0, 0, true), NOT);
        see(x, "1");
        Due.is("1 taken: what is next is not told", x.judge(0, 0, true), NONE);
        Due.is("1 passed: what is next is not told", x.judge(0, 0, false), NONE);
        see(x, "10");
        Due.is("10 passed", x.judge(0, 0, false), 0);
        Due.is("10 taken", x.judge(0, 0, true), NOT);
        see(x, "11");
        Due.is("11 taken: passing 0 was right", x.judge(0, 0, true), NONE);
        see(x, "0101");
        Due.is("0101 taken: 1 was to be taken", x.judge(0, 0, true), 1);
        see(x, "0111");
        Due.is("0111 taken", x.judge(0, 0, true), NONE);
        Due.is("0111 passed", x.judge(0, 0, false), 3);
        Due.is("0111 passed in ROUND 1", x.judge(0, 1, false), 3);
        Due.is("ROUND 2", x.judge(0, 2, false), OUTSIDE);
        Due.is("ROUND -1", x.judge(0, -1, false), OUTSIDE);
        Due.is("no street", x.judge(1, 2, false), UNKNOWN);
        x.saw(true);
        Due.is("longer than the street", x.judge(0, 0, true), NOT);
        Due.is("OUTSIDE ahead of NOT", x.judge(0, 2, true), OUTSIDE);
        x.clear();
        Due.is("an empty row", x.judge(0, 0, false), NOT);
        // see 0: the last one's SIGHT is all told
        Due.street(x, 1, "doors 3 free 90 price 0;walk 9;drive 1;see 0;garage 50;");
        Due.is("DOOR 0 is not to be taken", x.takes(1, 0, 0, 1), 0);
        see(x, "1");
        Due.is("taken too early", x.judge(1, 0, true), 0);
        Due.is("passed rightly", x.judge(1, 0, false), NONE);
    }

    private static void thought() {
        LastPlace x = Due.with("doors 3 free 30 price 0;");
        Due.street(x, 1, "doors 2 free 60 price 0;alike 20;");
        Due.is("nothing seen", x.thought(0, 1), 500000);
        x.saw(true);
        // 150000 and 300000: 500000 and 1000000
        Due.is("a free one", x.thought(0, 1), 333333);
        Due.is("the other way", x.thought(1, 0), 666666);
        x.saw(false);
        // behind a free one 80: 500000 * 70, 1000000 * 20 of a hundred: 350000, 200000; then 1000000, 571428
        Due.is("a taken one", x.thought(0, 1), (int) (1000000L * 1000000 / 1571428));
        x.saw(true);
        Due.is("no further than both", x.thought(0, 1), (int) (1000000L * 1000000 / 1571428));
        Due.is("one with itself goes on", x.thought(0, 0), 500000);
        Due.is("thought(0, 2)", x.thought(0, 2), UNKNOWN);
        Due.is("thought(3, 0)", x.thought(3, 0), UNKNOWN);
        Due.street(x, 2, "doors 3 free 0 price 0;");
        Due.is("it cannot be", x.thought(2, 0), 0);
        Due.is("it must be", x.thought(0, 2), 1000000);
        Due.is("both cannot be", x.thought(2, 2), 0);
        // cut at each DOOR: the smaller one is soon nothing, and stays so
        LastPlace y = Due.with("doors 24 free 1 price 0;");
        Due.street(y, 1, "doors 24 free 99 price 0;");
        for (int k = 0; k < 4; k++) {
            y.saw(true);
        }
        Due.is("cut to nothing", y.thought(0, 1), 0);
        for (int k = 0; k < 20; k++) {
            y.saw(false);
        }
        Due.is("nothing comes back", y.thought(0, 1), 0);
    }
}
