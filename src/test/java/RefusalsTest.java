import java.util.ArrayList;
import java.util.List;
import java.util.function.ToIntFunction;

/**
 * Each refusal that a promise lists, for each number at the last one that is allowed and the first one that is not,
 * with the least and the greatest int; of several refusals the first (UNKNOWN, OUTSIDE, NOT, FULL); and that nothing
 * changes by a call that is refused, nor by one that only asks.
 */
public final class RefusalsTest {
    private static final int UNKNOWN = LastPlace.UNKNOWN, OUTSIDE = LastPlace.OUTSIDE;
    private static final int NOT = LastPlace.NOT, FULL = LastPlace.FULL;
    private static final int LEAST_INT = Integer.MIN_VALUE, GREATEST_INT = Integer.MAX_VALUE;
    private static final int CALLS_AT_ONCE = 200, MOST_CALLS = 512;

    /** A number that may be given, and the refusal that it asks for; 0: it is allowed. */
    private record Given(long value, int refusal) {
    }

    /** A call and the refusal that is due; 0: none. */
    private record Asked(Calls.Call call, int refusal) {
    }

    private final Calls.State state;
    private final List<Asked> asked = new ArrayList<>();
    private static int combinations = 0;

    private RefusalsTest(Calls.State state) {
        this.state = state;
    }

    public static void main(String[] args) {
        for (Calls.State state : Calls.State.values()) {
            RefusalsTest test = new RefusalsTest(state);
            test.streets();
            test.ways();
            test.rulesAndRow();
            test.waiting();
            test.cars();
            test.eveningsAndImages();
            test.askInTurn();
            test.askOneByOne();
        }
        System.out.println(combinations + " combinations of numbers");
        Due.close();
    }

    // ---- what may be given

    private boolean isTold(int s) {
        return state != Calls.State.NEW && (s == 0 || s == 1);
    }

    private int ruleCount() {
        return state == Calls.State.NEW ? 0 : state == Calls.State.ALL || state == Calls.State.FOUR_RULES ? 4 : 2;
    }

    private int carCount() {
        switch (state) {
            case NEW:
                return 0;
            case THREE_CARS:
                return 3;
            case ALL:
                return 4;
            default:
                return 2;
        }
    }

    private int rowSize() {
        return state == Calls.State.NEW ? 0 : state == Calls.State.ALL ? 24 : state == Calls.State.LONG_ROW ? 4 : 2;
    }

    private int textSize() {
        return state == Calls.State.NEW ? 0 : state == Calls.State.ALL ? 240 : 30;
    }

    /** least .. most, and the four numbers beside them; with least above most none is allowed. */
    private static List<Given> within(int least, int most, int refusal) {
        List<Given> given = new ArrayList<>();
        for (int value : new int[] {least, most}) {
            if (least <= most && (given.isEmpty() || least < most)) {
                given.add(new Given(value, 0));
            }
        }
        for (int value : new int[] {least - 1, most + 1, LEAST_INT, GREATEST_INT}) {
            given.add(new Given(value, refusal));
        }
        return given;
    }

    /** STREETS: all that are told, one that is not, and numbers of none. */
    private List<Given> streetNumbers() {
        List<Given> given = new ArrayList<>();
        for (int s : new int[] {0, 1, 2, -1, 3, LEAST_INT, GREATEST_INT}) {
            given.add(new Given(s, isTold(s) ? 0 : UNKNOWN));
        }
        return given;
    }

    private static List<Given> one(Given given) {
        return List.of(given);
    }

    /** Of a STREET that is not there the bounds of STREET 0 are taken: UNKNOWN comes first. */
    private static int shape(Given street) {
        return street.value() == 1 ? 1 : 0;
    }

    private static List<Given> doors(Given street) {
        return within(0, Calls.DOORS[shape(street)] - 1, UNKNOWN);
    }

    private static List<Given> rounds(Given street) {
        return within(0, Calls.TIMES[shape(street)], OUTSIDE);
    }

    private static List<Given> sets(Given street) {
        int all = (1 << Calls.DOORS[shape(street)]) - 1;
        List<Given> given = within(0, all, OUTSIDE);
        given.add(new Given(LEAST_INT | all, OUTSIDE));
        return given;
    }

    /** At the last DOORS one sees fewer. */
    private static List<Given> sights(Given street, Given door) {
        long left = Calls.DOORS[shape(street)] - door.value();
        long seen = door.refusal() != 0 ? 1 : Math.min(left, Calls.SEE[shape(street)] + 1);
        List<Given> given = within(0, (1 << seen) - 1, OUTSIDE);
        given.add(new Given(1 << (seen - 1), 0));
        return given;
    }

    private static List<Given> whats(int most) {
        return within(0, most, OUTSIDE);
    }

    private static List<Given> flags() {
        return List.of(new Given(0, 0), new Given(1, 0));
    }

    // ---- the calls

    /** All combinations of these numbers, of which two at most are refused; later: NOT or FULL, if none of them is. */
    private void all(String name, ToIntFunction<long[]> later, List<List<Given>> columns) {
        combine(name, later, columns, new long[columns.size()], new int[] {0, 0, 0});
    }

    /** at: the column, how many are refused, the first refusal so far (0: none). */
    private void combine(String name, ToIntFunction<long[]> later, List<List<Given>> columns, long[] values, int[] at) {
        if (at[0] == values.length) {
            int refusal = at[2] != 0 ? at[2] : later.applyAsInt(values);
            asked.add(new Asked(Calls.Call.of(name, values), refusal));
            combinations++;
            return;
        }
        for (Given given : columns.get(at[0])) {
            values[at[0]] = given.value();
            if (given.refusal() == 0) {
                combine(name, later, columns, values, new int[] {at[0] + 1, at[1], at[2]});
            } else if (at[1] < 2) {
                combine(name, later, columns, values, new int[] {at[0] + 1, at[1] + 1, firstOf(at[2], given.refusal())});
            }
        }
    }

    /** The refusals come in the order of their numbers, UNKNOWN the greatest. */
    private static int firstOf(int one, int other) {
        return one == 0 ? other : Math.max(one, other);
    }

    private static int never(long[] values) {
        return 0;
    }

    private void streets() {
        all("feed", v -> textSize() + v[0] > 240 ? FULL : 0,
                List.of(within(1, 8, OUTSIDE), List.of(new Given(-1, 0), new Given(Long.MIN_VALUE, 0))));
        all("street", RefusalsTest::never, List.of(within(0, 2, UNKNOWN)));
        all("fault", RefusalsTest::never, List.of());
        all("told", RefusalsTest::never, List.of(streetNumbers(), whats(9)));
        for (Given s : streetNumbers()) {
            all("door", RefusalsTest::never, List.of(one(s), doors(s), whats(1)));
            all("chance", RefusalsTest::never, List.of(one(s), doors(s), flags()));
            all("taking", RefusalsTest::never, List.of(one(s), rounds(s), doors(s)));
        }
    }

    private void ways() {
        for (Given s : streetNumbers()) {
            for (Given i : doors(s)) {
                List<List<Given>> columns = List.of(one(s), rounds(s), one(i), sights(s, i));
                all("worth", RefusalsTest::never, columns);
                all("goingOn", RefusalsTest::never, columns);
                all("takes", v -> v[3] % 2 == 0 ? NOT : 0, columns);
            }
            all("start", RefusalsTest::never, List.of(one(s), rounds(s)));
            all("end", RefusalsTest::never, List.of(one(s), rounds(s), whats(1)));
            all("bar", RefusalsTest::never, List.of(one(s), rounds(s)));
        }
        all("which", RefusalsTest::never, List.of(streetNumbers(), streetNumbers()));
    }

    private void rulesAndRow() {
        all("rule", v -> textSize() > 80 ? NOT : ruleCount() == 4 ? FULL : 0, List.of());
        all("mean", RefusalsTest::never, List.of(streetNumbers(), within(0, ruleCount() - 1, UNKNOWN), whats(2)));
        all("saw", v -> rowSize() == 24 ? FULL : 0, List.of(flags()));
        all("clear", RefusalsTest::never, List.of());
        for (Given s : streetNumbers()) {
            int n = Calls.DOORS[shape(s)];
            // the last DOOR of THE ROW is free in SOME, LONG_ROW and FOUR_RULES alone
            boolean lastFree = rowSize() % 3 == 2 && state != Calls.State.THREE_CARS;
            boolean lacks = rowSize() == 0 || rowSize() > n;
            all("judge", v -> lacks || v[2] == 1 && !lastFree ? NOT : 0, List.of(one(s), rounds(s), flags()));
        }
        all("thought", RefusalsTest::never, List.of(streetNumbers(), streetNumbers()));
    }

    private void waiting() {
        for (Given s : streetNumbers()) {
            for (Given i : doors(s)) {
                all("waits", v -> v[3] % 2 == 1 ? NOT : 0,
                        List.of(one(s), rounds(s), one(i), sights(s, i), within(0, 100, OUTSIDE), within(0, 99, OUTSIDE), whats(1)));
            }
        }
        all("boy", RefusalsTest::never, List.of(streetNumbers()));
    }

    private void cars() {
        all("car", v -> carCount() == 4 ? FULL : 0, List.of(within(0, 99, OUTSIDE), within(0, 24, OUTSIDE)));
        all("steer", RefusalsTest::never, List.of(within(0, carCount() - 1, UNKNOWN), within(0, 24, OUTSIDE)));
        for (Given s : streetNumbers()) {
            all("parks", RefusalsTest::never, List.of(one(s), sets(s), within(0, carCount() - 1, UNKNOWN), whats(1)));
            all("rests", RefusalsTest::never, List.of(one(s), sets(s)));
            all("turn", RefusalsTest::never, List.of(one(s), sets(s)));
            all("allRests", v -> carCount() > 2 ? NOT : 0, List.of(one(s), sets(s)));
            // where all DOORS are free PlainModel needs long for four CARS, so that STREET 1 is asked with few
            all("lost", RefusalsTest::never, List.of(one(s), fewSets(s)));
            all("mend", RefusalsTest::never, List.of(one(s), fewSets(s), doors(s)));
        }
    }

    private static List<Given> fewSets(Given street) {
        List<Given> given = sets(street);
        if (shape(street) == 1) {
            given.removeIf(set -> set.refusal() == 0);
            given.add(new Given(0, 0));
            given.add(new Given(1 << 23 | 1, 0));
        }
        return given;
    }

    private void eveningsAndImages() {
        List<Given> seeds = new ArrayList<>();
        for (int v : new int[] {0, GREATEST_INT, -1, LEAST_INT}) {
            seeds.add(new Given(v, v < 0 ? OUTSIDE : 0));
        }
        all("seed", RefusalsTest::never, List.of(seeds));
        all("evening", RefusalsTest::never, List.of(streetNumbers(), within(0, ruleCount() - 1, UNKNOWN), within(1, 50, OUTSIDE)));
        all("count", RefusalsTest::never, List.of(whats(4)));
        all("keep", RefusalsTest::never, List.of(within(0, 1, UNKNOWN)));
        all("goBack", v -> isKept((int) v[0]) ? 0 : NOT, List.of(within(0, 1, UNKNOWN)));
    }

    private boolean isKept(int image) {
        return state == Calls.State.ALL || state != Calls.State.NEW && image == 0;
    }

    // ---- the answers

    private static boolean onlyAsks(Asked a) {
        switch (a.call().name()) {
            case "feed", "street", "rule", "saw", "clear", "car", "steer", "turn", "seed", "evening", "keep", "goBack":
                return a.refusal() != 0;
            default:
                return true;
        }
    }

    private void compare(Asked a, int got, PlainModel model) {
        int due = Calls.ask(model, a.call());
        if (a.refusal() != 0) {
            Due.is(state + ": " + a.call() + " (PlainModel)", due, a.refusal());
            Due.is(state + ": " + a.call(), got, a.refusal());
        } else {
            Due.is(state + ": " + a.call() + " is not refused", got <= UNKNOWN ? 1 : 0, 0);
            Due.is(state + ": " + a.call(), got, due);
        }
    }

    /** Many calls that are refused or only ask, on one object; then it shows what another shows that was not asked. */
    private void askInTurn() {
        List<Asked> left = new ArrayList<>(asked);
        left.removeIf(a -> !onlyAsks(a));
        PlainModel model = new PlainModel();
        Calls.prepare(model, state);
        LastPlace untouched = new LastPlace();
        Calls.prepare(untouched, state);
        List<Integer> due = Calls.shown(untouched);
        for (int from = 0; from < left.size(); from += CALLS_AT_ONCE) {
            List<Asked> now = left.subList(from, Math.min(left.size(), from + CALLS_AT_ONCE));
            LastPlace x = new LastPlace();
            int calls = Calls.prepare(x, state);
            for (Asked a : now) {
                compare(a, Calls.ask(x, a.call()), model);
            }
            List<Integer> shown = Calls.shown(x);
            Due.is("within 512 calls", calls + now.size() + shown.size() <= MOST_CALLS ? 1 : 0, 1);
            same(state + ": behind " + now.get(0).call() + " .. " + now.get(now.size() - 1).call(), shown, due);
        }
    }

    /** The others change something: each on an object of its own, which shows then what PlainModel shows. */
    private void askOneByOne() {
        for (Asked a : asked) {
            if (!onlyAsks(a)) {
                LastPlace x = new LastPlace();
                Calls.prepare(x, state);
                PlainModel model = new PlainModel();
                Calls.prepare(model, state);
                compare(a, Calls.ask(x, a.call()), model);
                same(state + ": behind " + a.call(), Calls.shown(x), Calls.shown(model));
            }
        }
    }

    private static void same(String where, List<Integer> got, List<Integer> due) {
        Due.is(where + ", how much is shown", got.size(), due.size());
        for (int k = 0; k < got.size() && k < due.size(); k++) {
            Due.is(where + ", what is shown at " + k, got.get(k), due.get(k));
        }
    }
}
