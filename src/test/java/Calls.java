import java.lang.reflect.InvocationTargetException;
import java.lang.reflect.Method;
import java.nio.charset.StandardCharsets;
import java.util.ArrayList;
import java.util.HashMap;
import java.util.List;
import java.util.Map;

/**
 * Calls by name, on LastPlace or on PlainModel alike, so that the same run can be asked of both; objects in which much
 * is so already; and a run of calls that shows all that is so, by which two objects are compared.
 */
final class Calls {
    /** What is so in a prepared object. */
    enum State {
        /** Nothing: as it was made. */
        NEW,
        /** STREETS 0 and 1, two RULES, a FAULT, a ROW of two, two CARS, IMAGE 0, a TEXT of 30 bytes. */
        SOME,
        /** As SOME, and a third CAR; the last DOOR of THE ROW is not free. */
        THREE_CARS,
        /** As SOME, with THE ROW longer than STREET 0. */
        LONG_ROW,
        /** As SOME, with four RULES. */
        FOUR_RULES,
        /** All there can be: four RULES, 24 DOORS in THE ROW, four CARS, both IMAGES, 240 bytes. */
        ALL
    }

    static final String STREET_0 = "doors 2 free 40 price 6;doors 1 free 70 price 2;alike 20;walk 3;curtain 4;round 5 times 1;garage 30;";
    static final String STREET_1 = "doors 24 free 30 price 9;alike -10;see 2;round 60 times 3;";
    static final int[] DOORS = {3, 24}, SEE = {1, 2}, TIMES = {1, 3};
    private static final String TEXT = "see 0;doors 2 free 12 price 3;";

    private static final Map<String, Method> METHODS = new HashMap<>();

    /** One call that may be asked of an object. */
    record Call(String name, List<Long> values) {
        static Call of(String name, long... values) {
            List<Long> list = new ArrayList<>();
            for (long value : values) {
                list.add(value);
            }
            return new Call(name, list);
        }

        @Override
        public String toString() {
            return name + values;
        }
    }

    private Calls() {
    }

    static int ask(Object target, Call call) {
        Method method = METHODS.computeIfAbsent(target.getClass().getName() + "." + call.name(), key -> find(target, call.name()));
        Class<?>[] types = method.getParameterTypes();
        Object[] values = new Object[types.length];
        for (int k = 0; k < types.length; k++) {
            long value = call.values().get(k);
            if (types[k] == boolean.class) {
                values[k] = value != 0;
            } else if (types[k] == long.class) {
                values[k] = value;
            } else {
                values[k] = (int) value;
            }
        }
        try {
            return (Integer) method.invoke(target, values);
        } catch (IllegalAccessException | InvocationTargetException e) {
            throw new IllegalStateException(call + " threw", e);
        }
    }

    private static Method find(Object target, String name) {
        for (Method method : target.getClass().getDeclaredMethods()) {
            if (method.getName().equals(name) && method.getReturnType() == int.class) {
                return method;
            }
        }
        throw new IllegalStateException("there is no " + name);
    }

    static int ask(Object target, String name, long... values) {
        return ask(target, Call.of(name, values));
    }

    /** How many calls a text takes, its street() or rule() not counted. */
    static int feeds(Object target, String text) {
        byte[] bytes = text.getBytes(StandardCharsets.ISO_8859_1);
        int calls = 0;
        for (int from = 0; from < bytes.length; from += 8) {
            int n = Math.min(8, bytes.length - from);
            ask(target, "feed", n, Due.packed(bytes, from, n));
            calls++;
        }
        return calls;
    }

    /** Brings a new object to a state; how many calls that took. */
    static int prepare(Object target, State state) {
        if (state == State.NEW) {
            return 0;
        }
        int calls = 2 + feeds(target, STREET_0);
        ask(target, "street", 0);
        calls += feeds(target, STREET_1);
        ask(target, "street", 1);
        calls += rules(target, state == State.ALL || state == State.FOUR_RULES ? 4 : 2);
        // a FAULT that stays to be told
        calls += 1 + feeds(target, "  x");
        ask(target, "street", 2);
        // IMAGE 0 is another scene than the one that is left
        ask(target, "saw", 0);
        ask(target, "saw", 1);
        ask(target, "car", 11, 1);
        ask(target, "seed", 4711);
        ask(target, "keep", 0);
        ask(target, "steer", 0, 2);
        ask(target, "car", 4, 0);
        ask(target, "seed", 77);
        ask(target, "clear");
        calls += 9;
        calls += row(target, state == State.ALL ? 24 : state == State.LONG_ROW ? 4 : 2, state == State.THREE_CARS);
        for (int c = 2; c < (state == State.ALL ? 4 : state == State.THREE_CARS ? 3 : 2); c++) {
            ask(target, "car", 20 * c, c);
            calls++;
        }
        if (state == State.ALL) {
            ask(target, "keep", 1);
            calls += 1 + feeds(target, TEXT + " ".repeat(210));
        } else {
            calls += feeds(target, TEXT);
        }
        return calls;
    }

    private static int rules(Object target, int count) {
        String[] texts = {"from 1 round 1", "from 2 seen 1 from 0", "from 0", "from 24 round 3"};
        int calls = 0;
        for (int k = 0; k < count; k++) {
            calls += feeds(target, texts[k]) + 1;
            ask(target, "rule");
        }
        return calls;
    }

    private static int row(Object target, int size, boolean lastTaken) {
        for (int k = 0; k < size; k++) {
            ask(target, "saw", k % 3 == 1 && !(lastTaken && k == size - 1) ? 1 : 0);
        }
        return size;
    }

    /** The answers of a run that looks at all that is so; the object is another behind it. */
    static List<Integer> shown(Object target) {
        List<Integer> answers = new ArrayList<>();
        answers.add(ask(target, "fault"));
        for (int what = 0; what <= 4; what++) {
            answers.add(ask(target, "count", what));
        }
        for (int s = 0; s <= 2; s++) {
            showStreet(target, s, answers);
        }
        for (int k = 0; k < 4; k++) {
            answers.add(ask(target, "mean", 0, k, 0));
            answers.add(ask(target, "mean", 1, k, 2));
        }
        showScene(target, answers);
        // THE TEXT is read as a STREET at last, which is looked at then
        answers.add(ask(target, "street", 2));
        answers.add(ask(target, "fault"));
        showStreet(target, 2, answers);
        for (int i = 0; i <= 1; i++) {
            answers.add(ask(target, "goBack", i));
            showScene(target, answers);
        }
        return answers;
    }

    private static void showStreet(Object target, int s, List<Integer> answers) {
        for (int what = 0; what <= 9; what++) {
            answers.add(ask(target, "told", s, what));
        }
        for (int i = 0; i < 3; i++) {
            answers.add(ask(target, "door", s, i, 0));
            answers.add(ask(target, "door", s, i, 1));
        }
        answers.add(ask(target, "start", s, 0));
        answers.add(ask(target, "start", s, 1));
        answers.add(ask(target, "end", s, 0, 0));
        answers.add(ask(target, "bar", s, 0));
    }

    private static void showScene(Object target, List<Integer> answers) {
        answers.add(ask(target, "count", 1));
        answers.add(ask(target, "count", 2));
        answers.add(ask(target, "thought", 0, 1));
        answers.add(ask(target, "judge", 1, 0, 0));
        for (int c = 0; c < 4; c++) {
            answers.add(ask(target, "parks", 1, (1 << 24) - 1, c, 0));
            answers.add(ask(target, "parks", 1, (1 << 24) - 1, c, 1));
            answers.add(ask(target, "steer", c, 0));
        }
        answers.add(ask(target, "seed", 1));
    }
}
