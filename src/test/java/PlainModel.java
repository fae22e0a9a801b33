import java.util.ArrayList;
import java.util.HashMap;
import java.util.HashSet;
import java.util.List;
import java.util.Map;
import java.util.Set;

/**
 * The document once more, in its plainest form: by recursion over what is told there, without tables that are used
 * again. The tests compare the class with it; it shares no code with the class, and may be slow.
 */
final class PlainModel {
    static final int NONE = -1, UNKNOWN = -1001, OUTSIDE = -1002, NOT = -1003, FULL = -1004;

    /** A fault of a text. */
    private static final class Fault extends Exception {
        final int number;
        final int where;

        Fault(int number, int where) {
            this.number = number;
            this.where = where;
        }
    }

    private record Token(char kind, int start, String text) {
        int behind() {
            return start + text.length();
        }
    }

    private static final class Street {
        final List<int[]> doors = new ArrayList<>();
        final Map<String, Integer> told = new HashMap<>();
        final Map<String, Integer> known = new HashMap<>();

        int n() {
            return doors.size();
        }

        int get(String name) {
            return told.get(name);
        }
    }

    private static final class Rule {
        int first;
        int rounds;
        final List<int[]> seen = new ArrayList<>();
    }

    private static final class Scene {
        final List<Boolean> row = new ArrayList<>();
        final List<int[]> cars = new ArrayList<>();
        long seed;

        Scene copy() {
            Scene copy = new Scene();
            copy.row.addAll(row);
            for (int[] car : cars) {
                copy.cars.add(car.clone());
            }
            copy.seed = seed;
            return copy;
        }
    }

    private final StringBuilder text = new StringBuilder();
    private final Street[] streets = new Street[3];
    private final List<Rule> rules = new ArrayList<>();
    private Scene scene = new Scene();
    private final Scene[] images = new Scene[2];
    private int fault = NONE;

    // ---- texts

    private static List<Token> tokens(String text) {
        List<Token> tokens = new ArrayList<>();
        int at = 0;
        while (at < text.length()) {
            char c = text.charAt(at);
            int behind = at + 1;
            char kind = c;
            if (c >= 'a' && c <= 'z') {
                kind = 'W';
                while (behind < text.length() && text.charAt(behind) >= 'a' && text.charAt(behind) <= 'z') {
                    behind++;
                }
            } else if (c >= '0' && c <= '9') {
                kind = 'N';
                while (behind < text.length() && text.charAt(behind) >= '0' && text.charAt(behind) <= '9') {
                    behind++;
                }
            } else if (c != ';' && c != '-' && c != ' ') {
                kind = 'X';
            }
            if (kind != ' ') {
                tokens.add(new Token(kind, at, text.substring(at, behind)));
            }
            at = behind;
        }
        tokens.add(new Token('E', text.length(), ""));
        return tokens;
    }

    private List<Token> tokens;
    private int next;

    private Token peek() {
        return tokens.get(next);
    }

    private Token needWord(String... words) throws Fault {
        Token token = peek();
        for (String word : words) {
            if (token.kind() == 'W' && token.text().equals(word)) {
                next++;
                return token;
            }
        }
        throw new Fault(1, token.start());
    }

    private int needNumber(int least, int most) throws Fault {
        Token token = peek();
        int begin = token.start();
        int sign = 1;
        if (least < 0 && token.kind() == '-') {
            next++;
            sign = -1;
            if (peek().start() != begin + 1 || peek().kind() != 'N') {
                throw new Fault(1, begin + 1);
            }
            token = peek();
        }
        if (token.kind() != 'N') {
            throw new Fault(1, token.start());
        }
        next++;
        if (token.text().length() > 3) {
            throw new Fault(2, begin);
        }
        int value = sign * Integer.parseInt(token.text());
        if (value < least || value > most) {
            throw new Fault(2, begin);
        }
        return value;
    }

    private void needSemicolon() throws Fault {
        if (peek().kind() != ';') {
            throw new Fault(1, peek().start());
        }
        next++;
    }

    private Street readStreet(String text) throws Fault {
        tokens = tokens(text);
        next = 0;
        Street street = new Street();
        String[] names = {"alike", "walk", "drive", "late", "curtain", "see", "round", "times", "garage"};
        int[] untold = {0, 2, 1, 5, 30, 1, 10, 0, 200};
        for (int k = 0; k < names.length; k++) {
            street.told.put(names[k], untold[k]);
        }
        Set<String> already = new HashSet<>();
        while (peek().kind() != 'E') {
            Token word = needWord("doors", "alike", "walk", "drive", "late", "curtain", "see", "round", "garage");
            if (word.text().equals("doors")) {
                int begin = peek().start();
                int more = needNumber(1, 24);
                if (street.n() + more > 24) {
                    throw new Fault(4, begin);
                }
                needWord("free");
                int free = needNumber(0, 100);
                needWord("price");
                int price = needNumber(0, 999);
                for (int k = 0; k < more; k++) {
                    street.doors.add(new int[] {free, price});
                }
            } else {
                if (!already.add(word.text())) {
                    throw new Fault(3, word.start());
                }
                switch (word.text()) {
                    case "alike" -> street.told.put("alike", needNumber(-50, 50));
                    case "curtain" -> street.told.put("curtain", needNumber(0, 200));
                    case "see" -> street.told.put("see", needNumber(0, 2));
                    case "garage" -> street.told.put("garage", needNumber(0, 999));
                    case "round" -> {
                        street.told.put("round", needNumber(0, 60));
                        needWord("times");
                        street.told.put("times", needNumber(0, 3));
                    }
                    default -> street.told.put(word.text(), needNumber(0, 99));
                }
            }
            needSemicolon();
        }
        if (street.n() == 0) {
            throw new Fault(1, text.length());
        }
        return street;
    }

    private Rule readRule(String text) throws Fault {
        tokens = tokens(text);
        next = 0;
        Rule rule = new Rule();
        needWord("from");
        rule.first = needNumber(0, 24);
        while (peek().kind() == 'W' && peek().text().equals("seen")) {
            next++;
            int begin = peek().start();
            int m = needNumber(1, 24);
            if (!rule.seen.isEmpty() && m <= rule.seen.get(rule.seen.size() - 1)[0]) {
                throw new Fault(3, begin);
            }
            needWord("from");
            rule.seen.add(new int[] {m, needNumber(0, 24)});
        }
        if (peek().kind() == 'W' && peek().text().equals("round")) {
            next++;
            rule.rounds = needNumber(0, 3);
        }
        if (peek().kind() != 'E') {
            throw new Fault(1, peek().start());
        }
        return rule;
    }

    // ---- what there is

    private boolean isStreet(int s) {
        return s >= 0 && s <= 2 && streets[s] != null;
    }

    private boolean isDoor(int s, int i) {
        return isStreet(s) && i >= 0 && i < streets[s].n();
    }

    private boolean isRound(int s, int r) {
        return r >= 0 && r <= streets[s].get("times");
    }

    private boolean isSight(int s, int i, int sight) {
        Street st = streets[s];
        int seen = 0;
        for (int j = i; j <= i + st.get("see") && j < st.n(); j++) {
            seen++;
        }
        return sight >= 0 && sight < (1 << seen);
    }

    private boolean isSet(int s, int set) {
        return set >= 0 && (set >> streets[s].n()) == 0;
    }

    // ---- streets

    int feed(int n, long bytes) {
        if (n < 1 || n > 8) {
            return OUTSIDE;
        }
        if (text.length() + n > 240) {
            return FULL;
        }
        for (int k = n; k >= 1; k--) {
            text.append((char) (bytes >>> (8 * (k - 1)) & 255));
        }
        return text.length();
    }

    int street(int s) {
        if (s < 0 || s > 2) {
            return UNKNOWN;
        }
        String told = text.toString();
        text.setLength(0);
        try {
            streets[s] = readStreet(told);
            fault = NONE;
            return streets[s].n();
        } catch (Fault f) {
            fault = f.where;
            return -10 - f.number;
        }
    }

    int fault() {
        return fault;
    }

    int told(int s, int what) {
        if (!isStreet(s)) {
            return UNKNOWN;
        }
        if (what < 0 || what > 9) {
            return OUTSIDE;
        }
        String[] names = {"", "alike", "walk", "drive", "late", "curtain", "see", "round", "times", "garage"};
        return what == 0 ? streets[s].n() : streets[s].get(names[what]);
    }

    int door(int s, int i, int what) {
        if (!isDoor(s, i)) {
            return UNKNOWN;
        }
        return what < 0 || what > 1 ? OUTSIDE : streets[s].doors.get(i)[what];
    }

    private static int chanceIn(Street st, int i, boolean ahead) {
        int c = st.doors.get(i)[0];
        if (i == 0) {
            return c;
        }
        c = ahead ? c + st.get("alike") : c - st.get("alike");
        return c < 0 ? 0 : c > 100 ? 100 : c;
    }

    int chance(int s, int i, boolean free) {
        return isDoor(s, i) ? chanceIn(streets[s], i, free) : UNKNOWN;
    }

    private static int tick(Street st, int r, int i) {
        return r * (st.n() + st.get("round")) + i;
    }

    private static int late(Street st, int there) {
        return there > st.get("curtain") ? st.get("late") * (there - st.get("curtain")) : 0;
    }

    private static int takingIn(Street st, int r, int i, int walk) {
        int n = st.n();
        return (st.doors.get(i)[1] + walk * (n - i) + late(st, tick(st, r, i) + n - i)) * 1000;
    }

    private static int takingIn(Street st, int r, int i) {
        return takingIn(st, r, i, st.get("walk"));
    }

    int taking(int s, int r, int i) {
        if (!isDoor(s, i)) {
            return UNKNOWN;
        }
        return isRound(s, r) ? takingIn(streets[s], r, i) : OUTSIDE;
    }

    // ---- the best way

    private static int mix(int chance, long free, long not) {
        return (int) ((chance * free + (100 - chance) * not) / 100);
    }

    private static int garageIn(Street st, int r) {
        return (st.get("garage") + late(st, tick(st, r, st.n()))) * 1000;
    }

    private static int roundIn(Street st, int r) {
        return st.get("drive") * st.get("round") * 1000 + startIn(st, r + 1);
    }

    private static boolean goesRound(Street st, int r) {
        return r < st.get("times") && roundIn(st, r) < garageIn(st, r);
    }

    private static int endIn(Street st, int r) {
        return goesRound(st, r) ? roundIn(st, r) : garageIn(st, r);
    }

    private static int goingOnIn(Street st, int r, int i, int sight) {
        String key = "g " + r + " " + i + " " + sight;
        Integer known = st.known.get(key);
        if (known != null) {
            return known;
        }
        int s = st.get("see");
        int answer = st.get("drive") * 1000;
        if (i == st.n() - 1) {
            answer += endIn(st, r);
        } else if (i + 1 + s < st.n()) {
            boolean ahead = (sight & 1 << s) != 0;
            int chance = chanceIn(st, i + 1 + s, ahead);
            int with = worthIn(st, r, i + 1, (sight & ~1) / 2 + (1 << s));
            int without = worthIn(st, r, i + 1, (sight & ~1) / 2);
            answer += mix(chance, with, without);
        } else {
            answer += worthIn(st, r, i + 1, (sight & ~1) / 2);
        }
        st.known.put(key, answer);
        return answer;
    }

    private static boolean takesIn(Street st, int r, int i, int sight) {
        return sight % 2 == 1 && takingIn(st, r, i) <= goingOnIn(st, r, i, sight);
    }

    private static int worthIn(Street st, int r, int i, int sight) {
        return takesIn(st, r, i, sight) ? takingIn(st, r, i) : goingOnIn(st, r, i, sight);
    }

    private static int startIn(Street st, int r) {
        String key = "s " + r;
        Integer known = st.known.get(key);
        if (known == null) {
            known = startFrom(st, r, 0, 0);
            st.known.put(key, known);
        }
        return known;
    }

    private static int startFrom(Street st, int r, int j, int sight) {
        if (j > st.get("see") || j >= st.n()) {
            return worthIn(st, r, 0, sight);
        }
        boolean ahead = j > 0 && (sight & 1 << (j - 1)) != 0;
        return mix(chanceIn(st, j, ahead), startFrom(st, r, j + 1, sight + (1 << j)), startFrom(st, r, j + 1, sight));
    }

    private int refuse(int s, int r, int i, int sight) {
        if (!isDoor(s, i)) {
            return UNKNOWN;
        }
        return isRound(s, r) && isSight(s, i, sight) ? 0 : OUTSIDE;
    }

    int worth(int s, int r, int i, int sight) {
        int refusal = refuse(s, r, i, sight);
        return refusal != 0 ? refusal : worthIn(streets[s], r, i, sight);
    }

    int goingOn(int s, int r, int i, int sight) {
        int refusal = refuse(s, r, i, sight);
        return refusal != 0 ? refusal : goingOnIn(streets[s], r, i, sight);
    }

    int takes(int s, int r, int i, int sight) {
        int refusal = refuse(s, r, i, sight);
        if (refusal != 0) {
            return refusal;
        }
        if (sight % 2 == 0) {
            return NOT;
        }
        return takesIn(streets[s], r, i, sight) ? 1 : 0;
    }

    int start(int s, int r) {
        if (!isStreet(s)) {
            return UNKNOWN;
        }
        return isRound(s, r) ? startIn(streets[s], r) : OUTSIDE;
    }

    int end(int s, int r, int what) {
        if (!isStreet(s)) {
            return UNKNOWN;
        }
        if (!isRound(s, r) || what < 0 || what > 1) {
            return OUTSIDE;
        }
        return what == 0 ? endIn(streets[s], r) : goesRound(streets[s], r) ? 1 : 0;
    }

    int bar(int s, int r) {
        if (!isStreet(s)) {
            return UNKNOWN;
        }
        if (!isRound(s, r)) {
            return OUTSIDE;
        }
        for (int b = 0; b <= streets[s].n(); b++) {
            boolean fits = true;
            for (int i = 0; i < streets[s].n(); i++) {
                for (int sight = 1; isSight(s, i, sight); sight += 2) {
                    fits &= takesIn(streets[s], r, i, sight) == (i >= b);
                }
            }
            if (fits) {
                return b;
            }
        }
        return NONE;
    }

    int which(int a, int b) {
        if (!isStreet(a) || !isStreet(b)) {
            return UNKNOWN;
        }
        return startIn(streets[a], 0) <= startIn(streets[b], 0) ? a : b;
    }

    // ---- rules, the row

    int rule() {
        if (text.length() > 80) {
            return NOT;
        }
        if (rules.size() == 4) {
            return FULL;
        }
        String told = text.toString();
        text.setLength(0);
        try {
            rules.add(readRule(told));
            fault = NONE;
            return rules.size() - 1;
        } catch (Fault f) {
            fault = f.where;
            return -10 - f.number;
        }
    }

    private static int barOf(Rule rule, int passed) {
        int b = rule.first;
        for (int[] seen : rule.seen) {
            if (seen[0] <= passed) {
                b = seen[1];
            }
        }
        return b;
    }

    private static boolean goesRound(Street st, Rule rule, int r) {
        return r < rule.rounds && r < st.get("times");
    }

    private int meanFrom(Street st, Rule rule, int what, int[] at, Map<String, Integer> known) {
        int r = at[0];
        int i = at[1];
        int passed = at[3];
        String key = r + " " + i + " " + at[2] + " " + passed;
        if (known.containsKey(key)) {
            return known.get(key);
        }
        int n = st.n();
        int cost = what == 0 ? 1000 * st.get("drive") : 0;
        int answer;
        if (i == n && goesRound(st, rule, r)) {
            answer = cost * st.get("round") + meanFrom(st, rule, what, new int[] {r + 1, 0, 0, 0}, known);
        } else if (i == n) {
            boolean late = tick(st, r, n) > st.get("curtain");
            answer = what == 0 ? garageIn(st, r) : what == 2 || late ? 1000000 : 0;
        } else {
            int free;
            if (i >= barOf(rule, passed)) {
                boolean late = tick(st, r, i) + n - i > st.get("curtain");
                free = what == 0 ? takingIn(st, r, i) : what == 1 && late ? 1000000 : 0;
            } else {
                free = cost + meanFrom(st, rule, what, new int[] {r, i + 1, 1, passed + 1}, known);
            }
            int not = cost + meanFrom(st, rule, what, new int[] {r, i + 1, 0, passed}, known);
            answer = mix(chanceIn(st, i, at[2] == 1), free, not);
        }
        known.put(key, answer);
        return answer;
    }

    int mean(int s, int rule, int what) {
        if (!isStreet(s) || rule < 0 || rule >= rules.size()) {
            return UNKNOWN;
        }
        if (what < 0 || what > 2) {
            return OUTSIDE;
        }
        return meanFrom(streets[s], rules.get(rule), what, new int[4], new HashMap<>());
    }

    int saw(boolean free) {
        if (scene.row.size() == 24) {
            return FULL;
        }
        scene.row.add(free);
        return scene.row.size();
    }

    int clear() {
        int had = scene.row.size();
        scene.row.clear();
        return had;
    }

    int judge(int s, int r, boolean taken) {
        if (!isStreet(s)) {
            return UNKNOWN;
        }
        if (!isRound(s, r)) {
            return OUTSIDE;
        }
        Street st = streets[s];
        List<Boolean> row = scene.row;
        if (row.isEmpty() || row.size() > st.n() || taken && !row.get(row.size() - 1)) {
            return NOT;
        }
        for (int i = 0; i < row.size(); i++) {
            int sight = 0;
            boolean all = true;
            for (int j = 0; j <= st.get("see") && i + j < st.n(); j++) {
                if (i + j >= row.size()) {
                    all = false;
                } else if (row.get(i + j)) {
                    sight |= 1 << j;
                }
            }
            boolean did = taken && i == row.size() - 1;
            if (all && row.get(i) && takesIn(st, r, i, sight) != did) {
                return i;
            }
        }
        return NONE;
    }

    int thought(int a, int b) {
        if (!isStreet(a) || !isStreet(b)) {
            return UNKNOWN;
        }
        long w = 500000;
        long v = 500000;
        for (int i = 0; i < scene.row.size() && i < streets[a].n() && i < streets[b].n(); i++) {
            boolean ahead = i > 0 && scene.row.get(i - 1);
            int ca = chanceIn(streets[a], i, ahead);
            int cb = chanceIn(streets[b], i, ahead);
            w = w * (scene.row.get(i) ? ca : 100 - ca) / 100;
            v = v * (scene.row.get(i) ? cb : 100 - cb) / 100;
            long greater = w > v ? w : v;
            if (greater > 0) {
                w = w * 1000000 / greater;
                v = v * 1000000 / greater;
            }
        }
        return w + v == 0 ? 0 : (int) (w * 1000000 / (w + v));
    }

    // ---- waiting, the boy

    int waits(int s, int r, int i, int sight, int q, int u, int what) {
        int refusal = refuse(s, r, i, sight);
        if (refusal != 0) {
            return refusal;
        }
        if (q < 0 || q > 100 || u < 0 || u > 99 || what < 0 || what > 1) {
            return OUTSIDE;
        }
        if (sight % 2 == 1) {
            return NOT;
        }
        int[] w = new int[21];
        w[0] = goingOnIn(streets[s], r, i, sight);
        int best = 0;
        for (int m = 1; m <= 20; m++) {
            w[m] = 1000 * u + mix(q, takingIn(streets[s], r, i), w[m - 1]);
            best = w[m] < w[best] ? m : best;
        }
        return what == 0 ? best : w[best];
    }

    private int boyFrom(Street st, int i, boolean ahead, int least, Map<String, Integer> known) {
        if (i == st.n()) {
            return least;
        }
        String key = i + " " + ahead + " " + least;
        Integer answer = known.get(key);
        if (answer == null) {
            int free = boyFrom(st, i + 1, true, Math.min(least, takingIn(st, 0, i)), known);
            int not = boyFrom(st, i + 1, false, least, known);
            answer = mix(chanceIn(st, i, ahead), free, not);
            known.put(key, answer);
        }
        return answer;
    }

    int boy(int s) {
        return isStreet(s) ? boyFrom(streets[s], 0, false, endIn(streets[s], 0), new HashMap<>()) : UNKNOWN;
    }

    // ---- cars

    int car(int walk, int bar) {
        if (walk < 0 || walk > 99 || bar < 0 || bar > 24) {
            return OUTSIDE;
        }
        if (scene.cars.size() == 4) {
            return FULL;
        }
        scene.cars.add(new int[] {walk, bar});
        return scene.cars.size() - 1;
    }

    int steer(int c, int b) {
        if (c < 0 || c >= scene.cars.size()) {
            return UNKNOWN;
        }
        if (b < 0 || b > 24) {
            return OUTSIDE;
        }
        int was = scene.cars.get(c)[1];
        scene.cars.get(c)[1] = b;
        return was;
    }

    private int[] bars() {
        int[] bars = new int[scene.cars.size()];
        for (int c = 0; c < bars.length; c++) {
            bars[c] = scene.cars.get(c)[1];
        }
        return bars;
    }

    private int[] places(Street st, int set, int[] bars) {
        Set<Integer> taken = new HashSet<>();
        int[] places = new int[bars.length];
        for (int c = 0; c < bars.length; c++) {
            places[c] = NONE;
            for (int i = bars[c]; i < st.n() && places[c] == NONE; i++) {
                if ((set & 1 << i) != 0 && taken.add(i)) {
                    places[c] = i;
                }
            }
        }
        return places;
    }

    /** extra: what is paid more, and from which DOOR on. */
    private int cost(Street st, int c, int place, int[] extra) {
        int drive = 1000 * st.get("drive");
        if (place == NONE) {
            return garageIn(st, 0) + drive * st.n();
        }
        int more = place >= extra[1] ? 1000 * extra[0] : 0;
        return takingIn(st, 0, place, scene.cars.get(c)[0]) + drive * place + more;
    }

    private int costBy(Street st, int set, int c, int[] bars, int[] extra) {
        return cost(st, c, places(st, set, bars)[c], extra);
    }

    int parks(int s, int set, int c, int what) {
        if (!isStreet(s) || c < 0 || c >= scene.cars.size()) {
            return UNKNOWN;
        }
        if (!isSet(s, set) || what < 0 || what > 1) {
            return OUTSIDE;
        }
        int place = places(streets[s], set, bars())[c];
        return what == 0 ? place : cost(streets[s], c, place, new int[2]);
    }

    private boolean atRest(Street st, int set, int[] bars) {
        for (int c = 0; c < bars.length; c++) {
            int own = costBy(st, set, c, bars, new int[2]);
            for (int b = 0; b <= st.n(); b++) {
                int[] other = bars.clone();
                other[c] = b;
                if (costBy(st, set, c, other, new int[2]) < own) {
                    return false;
                }
            }
        }
        return true;
    }

    private int byTurns(Street st, int set, int[] bars, int[] extra) {
        for (int turn = 1; turn <= 50; turn++) {
            boolean changed = false;
            for (int c = 0; c < bars.length; c++) {
                int own = bars[c];
                int best = NONE;
                int least = 0;
                for (int b = 0; b <= st.n(); b++) {
                    bars[c] = b;
                    int k = costBy(st, set, c, bars, extra);
                    if (best == NONE || k < least || k == least && b == own) {
                        best = b;
                        least = k;
                    }
                }
                bars[c] = best;
                changed |= best != own;
            }
            if (!changed) {
                return turn - 1;
            }
        }
        return NONE;
    }

    int rests(int s, int set) {
        if (!isStreet(s)) {
            return UNKNOWN;
        }
        if (!isSet(s, set)) {
            return OUTSIDE;
        }
        return atRest(streets[s], set, bars()) ? 1 : 0;
    }

    int turn(int s, int set) {
        if (!isStreet(s)) {
            return UNKNOWN;
        }
        if (!isSet(s, set)) {
            return OUTSIDE;
        }
        int[] bars = bars();
        int turns = byTurns(streets[s], set, bars, new int[2]);
        for (int c = 0; c < bars.length; c++) {
            scene.cars.get(c)[1] = bars[c];
        }
        return turns;
    }

    private int restsFrom(Street st, int set, int[] bars, int c) {
        if (c == bars.length) {
            return atRest(st, set, bars) ? 1 : 0;
        }
        int all = 0;
        for (int b = 0; b <= st.n(); b++) {
            bars[c] = b;
            all += restsFrom(st, set, bars, c + 1);
        }
        return all;
    }

    int allRests(int s, int set) {
        if (!isStreet(s)) {
            return UNKNOWN;
        }
        if (!isSet(s, set)) {
            return OUTSIDE;
        }
        return scene.cars.size() > 2 ? NOT : restsFrom(streets[s], set, bars(), 0);
    }

    private int leastFrom(Street st, int set, int c) {
        if (c == scene.cars.size()) {
            return 0;
        }
        int least = cost(st, c, NONE, new int[2]) + leastFrom(st, set, c + 1);
        for (int i = 0; i < st.n(); i++) {
            if ((set & 1 << i) != 0) {
                least = Math.min(least, cost(st, c, i, new int[2]) + leastFrom(st, set & ~(1 << i), c + 1));
            }
        }
        return least;
    }

    private int lostBy(Street st, int set, int[] bars, int least) {
        int all = 0;
        for (int c = 0; c < bars.length; c++) {
            all += costBy(st, set, c, bars, new int[2]);
        }
        return all - least;
    }

    int lost(int s, int set) {
        if (!isStreet(s)) {
            return UNKNOWN;
        }
        if (!isSet(s, set)) {
            return OUTSIDE;
        }
        return lostBy(streets[s], set, bars(), leastFrom(streets[s], set, 0));
    }

    int mend(int s, int set, int x) {
        if (!isDoor(s, x)) {
            return UNKNOWN;
        }
        if (!isSet(s, set)) {
            return OUTSIDE;
        }
        int least = leastFrom(streets[s], set, 0);
        int mended = 0;
        int leastLost = Integer.MAX_VALUE;
        for (int p = 0; p <= 20; p++) {
            int[] bars = new int[scene.cars.size()];
            byTurns(streets[s], set, bars, new int[] {10 * p, x});
            int lost = lostBy(streets[s], set, bars, least);
            if (lost < leastLost) {
                leastLost = lost;
                mended = p;
            }
        }
        return mended;
    }

    // ---- evenings, images

    int seed(int v) {
        if (v < 0) {
            return OUTSIDE;
        }
        int was = (int) scene.seed;
        scene.seed = v;
        return was;
    }

    private int draw() {
        scene.seed = (scene.seed * 1103515245L + 12345L) % 2147483648L;
        return (int) (scene.seed / 65536 % 100);
    }

    private long oneEvening(Street st, Rule rule) {
        long cost = 0;
        int r = 0;
        while (true) {
            int passed = 0;
            boolean ahead = false;
            for (int i = 0; i < st.n(); i++) {
                boolean free = draw() < chanceIn(st, i, ahead);
                if (free && i >= barOf(rule, passed)) {
                    return cost + takingIn(st, r, i);
                }
                cost += 1000L * st.get("drive");
                passed += free ? 1 : 0;
                ahead = free;
            }
            if (!goesRound(st, rule, r)) {
                return cost + garageIn(st, r);
            }
            cost += 1000L * st.get("drive") * st.get("round");
            r++;
        }
    }

    int evening(int s, int rule, int n) {
        if (!isStreet(s) || rule < 0 || rule >= rules.size()) {
            return UNKNOWN;
        }
        if (n < 1 || n > 50) {
            return OUTSIDE;
        }
        long all = 0;
        for (int k = 0; k < n; k++) {
            all += oneEvening(streets[s], rules.get(rule));
        }
        return (int) (all / 1000);
    }

    int count(int what) {
        int free = 0;
        for (boolean f : scene.row) {
            free += f ? 1 : 0;
        }
        int[] counts = {rules.size(), scene.row.size(), free, scene.cars.size(), text.length()};
        return what < 0 || what > 4 ? OUTSIDE : counts[what];
    }

    int keep(int i) {
        if (i < 0 || i > 1) {
            return UNKNOWN;
        }
        images[i] = scene.copy();
        return 1;
    }

    int goBack(int i) {
        if (i < 0 || i > 1) {
            return UNKNOWN;
        }
        if (images[i] == null) {
            return NOT;
        }
        scene = images[i].copy();
        return 1;
    }
}
