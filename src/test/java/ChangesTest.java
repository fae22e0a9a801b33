import java.util.ArrayList;
import java.util.EnumSet;
import java.util.List;
import java.util.Set;

/**
 * What each call changes, and that it changes nothing else: what is so in an object is told apart into parts, and each
 * part is looked at in an object that was asked and in one that was not.
 */
public final class ChangesTest {
    private enum Part {
        STREET_0, STREET_1, STREET_2, RULES, TEXT, FAULT, ROW, CARS, SEED, IMAGE_0, IMAGE_1
    }

    private static final Set<Part> NOTHING = EnumSet.noneOf(Part.class);
    private static final Calls.State SOME = Calls.State.SOME, ALL = Calls.State.ALL;

    public static void main(String[] args) {
        streets();
        askingChangesNothing();
        rulesAndRow();
        cars();
        eveningsAndImages();
        refusedChangesNothing();
        Due.close();
    }

    // ---- what is looked at

    private static List<Integer> look(LastPlace x, Part part) {
        List<Integer> seen = new ArrayList<>();
        switch (part) {
            case STREET_0, STREET_1, STREET_2:
                lookAtStreet(x, part.ordinal(), seen);
                break;
            case RULES:
                lookAtRules(x, seen);
                break;
            case TEXT:
                seen.add(x.count(4));
                seen.add(x.street(2));
                seen.add(x.fault());
                lookAtStreet(x, 2, seen);
                break;
            case FAULT:
                seen.add(x.fault());
                break;
            case ROW:
                lookAtRow(x, seen);
                break;
            case CARS:
                lookAtCars(x, seen);
                break;
            case SEED:
                seen.add(x.seed(0));
                break;
            default:
                lookAtImage(x, part == Part.IMAGE_0 ? 0 : 1, seen);
                break;
        }
        return seen;
    }

    /** Of one that was not kept nothing is seen but that. */
    private static void lookAtImage(LastPlace x, int image, List<Integer> seen) {
        int answer = x.goBack(image);
        seen.add(answer);
        if (answer == 1) {
            lookAtRow(x, seen);
            lookAtCars(x, seen);
            seen.add(x.seed(0));
        }
    }

    private static void lookAtStreet(LastPlace x, int s, List<Integer> seen) {
        for (int what = 0; what <= 9; what++) {
            seen.add(x.told(s, what));
        }
        for (int i = 0; i < 24; i++) {
            seen.add(x.door(s, i, 0));
            seen.add(x.door(s, i, 1));
            seen.add(x.worth(s, 0, i, 1));
        }
        seen.add(x.start(s, 0));
        seen.add(x.boy(s));
    }

    /** In a STREET of its own, told here, so that nothing but the RULES can differ. */
    private static void lookAtRules(LastPlace x, List<Integer> seen) {
        x.street(2);
        Due.street(x, 2, "doors 9 free 41 price 3;alike 7;round 3 times 3;");
        seen.add(x.count(0));
        for (int k = 0; k < 4; k++) {
            seen.add(x.mean(2, k, 0));
            seen.add(x.mean(2, k, 2));
        }
    }

    private static void lookAtRow(LastPlace x, List<Integer> seen) {
        seen.add(x.count(1));
        seen.add(x.count(2));
        x.street(2);
        // each free DOOR is to be taken there, so that JUDGED is the first one that was free
        Due.street(x, 2, "doors 24 free 37 price 0;walk 0;drive 1;see 0;");
        Due.street(x, 1, "doors 24 free 61 price 0;alike 23;walk 0;drive 1;see 0;");
        seen.add(x.judge(2, 0, false));
        seen.add(x.thought(1, 2));
        seen.add(x.thought(2, 1));
    }

    private static void lookAtCars(LastPlace x, List<Integer> seen) {
        x.street(2);
        Due.street(x, 2, "doors 24 free 1 price 0;drive 0;");
        seen.add(x.count(3));
        for (int c = 0; c < 4; c++) {
            seen.add(x.steer(c, 0));
            seen.add(x.parks(2, 1, 0, 1));
            x.steer(c, 24);
        }
        for (int c = 0; c < 4; c++) {
            x.steer(c, 0);
            seen.add(x.parks(2, 1, c, 1));
            x.steer(c, 24);
        }
    }

    // ---- comparing

    private static void changes(Calls.State state, Set<Part> due, String name, long... values) {
        Calls.Call call = Calls.Call.of(name, values);
        for (Part part : Part.values()) {
            LastPlace asked = new LastPlace();
            LastPlace other = new LastPlace();
            Calls.prepare(asked, state);
            Calls.prepare(other, state);
            Calls.ask(asked, call);
            boolean same = look(asked, part).equals(look(other, part));
            Due.is(state + ": " + call + " changes " + part, same ? 0 : 1, due.contains(part) ? 1 : 0);
        }
    }

    private static Set<Part> only(Part part) {
        return EnumSet.of(part);
    }

    // ---- the calls

    private static void streets() {
        changes(SOME, only(Part.TEXT), "feed", 1, ' ');
        changes(SOME, only(Part.TEXT), "feed", 8, -1);
        // THE TEXT of SOME is a STREET; the FAULT ahead of it is told no more
        changes(SOME, EnumSet.of(Part.STREET_0, Part.TEXT, Part.FAULT), "street", 0);
        changes(SOME, EnumSet.of(Part.STREET_1, Part.TEXT, Part.FAULT), "street", 1);
        changes(SOME, EnumSet.of(Part.STREET_2, Part.TEXT, Part.FAULT), "street", 2);
        changes(ALL, EnumSet.of(Part.STREET_2, Part.TEXT, Part.FAULT), "street", 2);
        // as a RULE it has a FAULT at another byte, and is gone
        changes(SOME, EnumSet.of(Part.TEXT, Part.FAULT), "rule");
        changes(SOME, NOTHING, "street", 3);
        changes(SOME, NOTHING, "street", -1);
        changes(ALL, NOTHING, "feed", 1, ' ');
        changes(SOME, NOTHING, "feed", 9, 0);
    }

    private static void askingChangesNothing() {
        for (Calls.State state : Calls.State.values()) {
            changes(state, NOTHING, "fault");
            changes(state, NOTHING, "told", 0, 3);
            changes(state, NOTHING, "door", 0, 1, 1);
            changes(state, NOTHING, "chance", 0, 1, 1);
            changes(state, NOTHING, "taking", 0, 1, 1);
            changes(state, NOTHING, "worth", 0, 1, 1, 3);
            changes(state, NOTHING, "goingOn", 0, 1, 1, 3);
            changes(state, NOTHING, "takes", 0, 1, 1, 3);
            changes(state, NOTHING, "start", 0, 1);
            changes(state, NOTHING, "end", 0, 1, 0);
            changes(state, NOTHING, "bar", 0, 1);
            changes(state, NOTHING, "which", 0, 1);
            changes(state, NOTHING, "mean", 1, 1, 0);
            changes(state, NOTHING, "judge", 1, 0, 0);
            changes(state, NOTHING, "thought", 0, 1);
            changes(state, NOTHING, "waits", 0, 0, 0, 2, 50, 1, 0);
            changes(state, NOTHING, "boy", 1);
            changes(state, NOTHING, "parks", 0, 5, 1, 1);
            changes(state, NOTHING, "rests", 0, 5);
            changes(state, NOTHING, "allRests", 0, 5);
            changes(state, NOTHING, "lost", 0, 5);
            changes(state, NOTHING, "mend", 0, 5, 1);
            changes(state, NOTHING, "count", 4);
        }
    }

    private static void rulesAndRow() {
        changes(SOME, only(Part.ROW), "saw", 0);
        changes(SOME, only(Part.ROW), "saw", 1);
        changes(SOME, only(Part.ROW), "clear");
        changes(ALL, only(Part.ROW), "clear");
        changes(Calls.State.NEW, NOTHING, "clear");
        changes(ALL, NOTHING, "saw", 1);
        changes(ALL, NOTHING, "rule");
        changes(Calls.State.FOUR_RULES, NOTHING, "rule");
        aRuleThatIsTold();
    }

    /** THE TEXT of the states is no RULE, so that one is told here. */
    private static void aRuleThatIsTold() {
        for (Part part : Part.values()) {
            LastPlace asked = new LastPlace();
            LastPlace other = new LastPlace();
            for (LastPlace x : new LastPlace[] {asked, other}) {
                Calls.prepare(x, SOME);
                // THE TEXT becomes STREET 2; then there is a FAULT once more, and the RULE's text
                x.street(2);
                Due.street(x, 1, "x");
                Due.text(x, "from 7 round 1");
            }
            Due.is("rule()", asked.rule(), 2);
            boolean changes = part == Part.RULES || part == Part.TEXT || part == Part.FAULT;
            Due.is("a RULE changes " + part, look(asked, part).equals(look(other, part)) ? 0 : 1, changes ? 1 : 0);
        }
    }

    private static void cars() {
        changes(SOME, only(Part.CARS), "car", 7, 7);
        changes(Calls.State.NEW, only(Part.CARS), "car", 0, 0);
        changes(ALL, NOTHING, "car", 7, 7);
        changes(SOME, only(Part.CARS), "steer", 0, 24);
        changes(SOME, NOTHING, "steer", 0, 2);
        changes(ALL, only(Part.CARS), "steer", 3, 0);
        // CAR 0 of SOME (walk 11, BAR 2) has DOOR 1 for less than the garage; none free: BARS stay
        changes(SOME, only(Part.CARS), "turn", 0, 2);
        changes(SOME, NOTHING, "turn", 0, 0);
        changes(Calls.State.NEW, NOTHING, "turn", 0, 0);
    }

    private static void eveningsAndImages() {
        changes(SOME, only(Part.SEED), "seed", 5);
        changes(SOME, NOTHING, "seed", 77);
        changes(SOME, NOTHING, "seed", -1);
        changes(SOME, only(Part.SEED), "evening", 0, 0, 1);
        changes(SOME, only(Part.SEED), "evening", 1, 1, 50);
        changes(SOME, only(Part.IMAGE_0), "keep", 0);
        changes(SOME, only(Part.IMAGE_1), "keep", 1);
        changes(ALL, only(Part.IMAGE_0), "keep", 0);
        changes(ALL, NOTHING, "keep", 1);
        // THE ROW of SOME is that of its IMAGE 0
        changes(SOME, EnumSet.of(Part.CARS, Part.SEED), "goBack", 0);
        changes(Calls.State.LONG_ROW, EnumSet.of(Part.ROW, Part.CARS, Part.SEED), "goBack", 0);
        changes(SOME, NOTHING, "goBack", 1);
        changes(ALL, EnumSet.of(Part.ROW, Part.CARS, Part.SEED), "goBack", 0);
        changes(ALL, NOTHING, "goBack", 1);
    }

    private static void refusedChangesNothing() {
        for (Calls.State state : Calls.State.values()) {
            changes(state, NOTHING, "car", 100, 0);
            changes(state, NOTHING, "car", 0, 25);
            changes(state, NOTHING, "steer", 0, 25);
            changes(state, NOTHING, "steer", 4, 0);
            changes(state, NOTHING, "turn", 0, 8);
            changes(state, NOTHING, "turn", 2, 0);
            changes(state, NOTHING, "evening", 0, 0, 51);
            changes(state, NOTHING, "evening", 0, 4, 1);
            changes(state, NOTHING, "evening", 2, 0, 1);
            changes(state, NOTHING, "keep", 2);
            changes(state, NOTHING, "goBack", 2);
        }
    }
}
