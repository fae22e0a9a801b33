/**
 * The last free place: a street of doors that ends at a theatre, and the best way to look for a place in it.
 * What each call answers stands in the document, as numbered promises; the words of the document are used here.
 */
public final class LastPlace {
    public static final int NONE = -1, UNKNOWN = -1001, OUTSIDE = -1002, NOT = -1003, FULL = -1004;

    private static final int STREETS = 3, RULES = 4, CARS = 4, IMAGES = 2;
    private static final int MOST_DOORS = 24, PLACES = MOST_DOORS + 1, MOST_ROUNDS = 4, MOST_SIGHTS = 8;
    private static final int TEXT_LIMIT = 240, RULE_LIMIT = 80, MOST_FIGURES = 3;
    private static final int THOUSAND = 1000, HUNDRED = 100, MILLION = 1000000;
    private static final int MOST_WAITING = 20, MOST_EVENINGS = 50, MOST_TURNS = 50, MOST_PRICES = 20;

    private static final int CANNOT_STAND = 1, OUT_OF_BOUNDS = 2, TOLD_ALREADY = 3, ONE_DOOR_TOO_MANY = 4;
    private static final int FAULT_BASE = -10;

    // What a street's text tells, numbered as told() asks for it.
    private static final int DOORS = 0, ALIKE = 1, WALK = 2, DRIVE = 3, LATE = 4;
    private static final int CURTAIN = 5, SEE = 6, ROUND = 7, TIMES = 8, GARAGE = 9, TOLD = 10;
    private static final int[] LEAST = {1, -50, 0, 0, 0, 0, 0, 0, 0, 0};
    private static final int[] MOST = {MOST_DOORS, 50, 99, 99, 99, 200, 2, 60, 3, 999};
    private static final int[] NOT_TOLD = {0, 0, 2, 1, 5, 30, 1, 10, 0, 200};

    private static final int OF_COST = 0, OF_LATE = 1, OF_GARAGE = 2;

    private final Text text = new Text();
    private final Street[] streets = new Street[STREETS];
    private final BestWay[] ways = new BestWay[STREETS];
    private final Street draft = new Street();
    private final Rule[] rules = new Rule[RULES];
    private int ruleCount = 0;
    private int latestFault = NONE;
    private final Scene now = new Scene();
    private final Scene[] images = new Scene[IMAGES];
    private final boolean[] kept = new boolean[IMAGES];
    private final Reckoner reckoner = new Reckoner();
    private final Parking parking = new Parking(now);

    public LastPlace() {
        for (int s = 0; s < STREETS; s++) {
            streets[s] = new Street();
            ways[s] = new BestWay(streets[s]);
        }
        for (int k = 0; k < RULES; k++) {
            rules[k] = new Rule();
        }
        for (int i = 0; i < IMAGES; i++) {
            images[i] = new Scene();
        }
    }

    // ---- streets

    public int feed(int n, long bytes) {
        if (n < 1 || n > 8) {
            return OUTSIDE;
        }
        if (text.size + n > TEXT_LIMIT) {
            return FULL;
        }
        for (int k = n - 1; k >= 0; k--) {
            text.append((byte) (bytes >> (8 * k)));
        }
        return text.size;
    }

    public int street(int s) {
        if (s < 0 || s >= STREETS) {
            return UNKNOWN;
        }
        text.rewind();
        draft.readFrom(text);
        int answer = closeText();
        if (answer < 0) {
            return answer;
        }
        streets[s].become(draft);
        ways[s].reckon();
        return streets[s].doors();
    }

    public int fault() {
        return latestFault;
    }

    public int told(int s, int what) {
        if (!isStreet(s)) {
            return UNKNOWN;
        }
        return isIn(what, 0, TOLD - 1) ? streets[s].values[what] : OUTSIDE;
    }

    public int door(int s, int i, int what) {
        if (!isDoor(s, i)) {
            return UNKNOWN;
        }
        if (!isIn(what, 0, 1)) {
            return OUTSIDE;
        }
        return what == 0 ? streets[s].frees[i] : streets[s].prices[i];
    }

    public int chance(int s, int i, boolean free) {
        return isDoor(s, i) ? streets[s].chanceOf(i, free) : UNKNOWN;
    }

    public int taking(int s, int r, int i) {
        if (!isDoor(s, i)) {
            return UNKNOWN;
        }
        return isRound(s, r) ? streets[s].takingOf(r, i) : OUTSIDE;
    }

    // ---- the best way

    public int worth(int s, int r, int i, int sight) {
        int refusal = refuseSight(s, r, i, sight);
        return refusal != 0 ? refusal : ways[s].worthOf(r, i, sight);
    }

    public int goingOn(int s, int r, int i, int sight) {
        int refusal = refuseSight(s, r, i, sight);
        return refusal != 0 ? refusal : ways[s].onwardOf(r, i, sight);
    }

    public int takes(int s, int r, int i, int sight) {
        int refusal = refuseSight(s, r, i, sight);
        if (refusal != 0) {
            return refusal;
        }
        if ((sight & 1) == 0) {
            return NOT;
        }
        return ways[s].isTaken(r, i, sight) ? 1 : 0;
    }

    public int start(int s, int r) {
        if (!isStreet(s)) {
            return UNKNOWN;
        }
        return isRound(s, r) ? ways[s].starts[r] : OUTSIDE;
    }

    public int end(int s, int r, int what) {
        if (!isStreet(s)) {
            return UNKNOWN;
        }
        if (!isRound(s, r) || !isIn(what, 0, 1)) {
            return OUTSIDE;
        }
        if (what == 0) {
            return ways[s].ends[r];
        }
        // ROUND is gone only where it is less, so an end below the garage's cost tells it.
        return ways[s].ends[r] < streets[s].garageOf(r) ? 1 : 0;
    }

    public int bar(int s, int r) {
        if (!isStreet(s)) {
            return UNKNOWN;
        }
        return isRound(s, r) ? ways[s].barOf(r) : OUTSIDE;
    }

    public int which(int a, int b) {
        if (!isStreet(a) || !isStreet(b)) {
            return UNKNOWN;
        }
        return ways[b].starts[0] < ways[a].starts[0] ? b : a;
    }

    // ---- rules, the row

    public int rule() {
        if (text.size > RULE_LIMIT) {
            return NOT;
        }
        if (ruleCount >= RULES) {
            return FULL;
        }
        text.rewind();
        rules[ruleCount].readFrom(text);
        int answer = closeText();
        if (answer < 0) {
            return answer;
        }
        ruleCount++;
        return ruleCount - 1;
    }

    public int mean(int s, int rule, int what) {
        if (!isStreet(s) || !isRule(rule)) {
            return UNKNOWN;
        }
        return isIn(what, OF_COST, OF_GARAGE) ? reckoner.meanOf(streets[s], rules[rule], what) : OUTSIDE;
    }

    public int saw(boolean free) {
        return now.rowSize < MOST_DOORS ? now.see(free) : FULL;
    }

    public int clear() {
        int had = now.rowSize;
        now.rowSize = 0;
        now.rowFree = 0;
        return had;
    }

    public int judge(int s, int r, boolean taken) {
        if (!isStreet(s)) {
            return UNKNOWN;
        }
        if (!isRound(s, r)) {
            return OUTSIDE;
        }
        int last = now.rowSize - 1;
        if (last < 0 || last >= streets[s].doors() || (taken && !now.sawFree(last))) {
            return NOT;
        }
        return ways[s].firstWrong(r, now, taken);
    }

    public int thought(int a, int b) {
        if (!isStreet(a) || !isStreet(b)) {
            return UNKNOWN;
        }
        return reckoner.thoughtOf(streets[a], streets[b], now);
    }

    // ---- waiting, the boy

    public int waits(int s, int r, int i, int sight, int q, int u, int what) {
        int refusal = refuseSight(s, r, i, sight);
        if (refusal != 0) {
            return refusal;
        }
        if (!isIn(q, 0, HUNDRED) || !isIn(u, 0, 99) || !isIn(what, 0, 1)) {
            return OUTSIDE;
        }
        if ((sight & 1) != 0) {
            return NOT;
        }
        reckoner.reckonWait(ways[s].onwardOf(r, i, sight), streets[s].takingOf(r, i), q, u);
        return what == 0 ? reckoner.waitTicks : reckoner.waitCost;
    }

    public int boy(int s) {
        return isStreet(s) ? reckoner.boyOf(streets[s], ways[s].ends[0]) : UNKNOWN;
    }

    // ---- cars

    public int car(int walk, int bar) {
        if (!isIn(walk, 0, MOST[WALK]) || !isIn(bar, 0, MOST_DOORS)) {
            return OUTSIDE;
        }
        return now.carCount < CARS ? now.addCar(walk, bar) : FULL;
    }

    public int steer(int c, int b) {
        if (!isCar(c)) {
            return UNKNOWN;
        }
        if (!isIn(b, 0, MOST_DOORS)) {
            return OUTSIDE;
        }
        int was = now.bars[c];
        now.bars[c] = b;
        return was;
    }

    public int parks(int s, int set, int c, int what) {
        if (!isStreet(s) || !isCar(c)) {
            return UNKNOWN;
        }
        if (!isSet(s, set) || !isIn(what, 0, 1)) {
            return OUTSIDE;
        }
        parking.comeTo(streets[s], set);
        int place = parking.placeOf(c);
        if (what == 1) {
            return parking.costAt(c, place);
        }
        return place < streets[s].doors() ? place : NONE;
    }

    public int rests(int s, int set) {
        int refusal = refuseSet(s, set);
        if (refusal != 0) {
            return refusal;
        }
        parking.comeTo(streets[s], set);
        return parking.isAtRest() ? 1 : 0;
    }

    public int turn(int s, int set) {
        int refusal = refuseSet(s, set);
        if (refusal != 0) {
            return refusal;
        }
        parking.comeTo(streets[s], set);
        int turns = parking.goByTurns();
        now.takeBars(parking.bars);
        return turns;
    }

    public int allRests(int s, int set) {
        int refusal = refuseSet(s, set);
        if (refusal != 0) {
            return refusal;
        }
        if (now.carCount > 2) {
            return NOT;
        }
        parking.comeTo(streets[s], set);
        return parking.countRests();
    }

    public int lost(int s, int set) {
        int refusal = refuseSet(s, set);
        if (refusal != 0) {
            return refusal;
        }
        parking.comeTo(streets[s], set);
        return parking.costOfAll() - parking.leastOfAll();
    }

    public int mend(int s, int set, int x) {
        if (!isDoor(s, x)) {
            return UNKNOWN;
        }
        if (!isSet(s, set)) {
            return OUTSIDE;
        }
        parking.comeTo(streets[s], set);
        return parking.mendingPrice(x);
    }

    // ---- evenings, images

    public int seed(int v) {
        if (v < 0) {
            return OUTSIDE;
        }
        int was = now.seedNow;
        now.seedNow = v;
        return was;
    }

    public int evening(int s, int rule, int n) {
        if (!isStreet(s) || !isRule(rule)) {
            return UNKNOWN;
        }
        if (!isIn(n, 1, MOST_EVENINGS)) {
            return OUTSIDE;
        }
        long all = 0;
        for (int k = 0; k < n; k++) {
            all += reckoner.eveningOf(streets[s], rules[rule], now);
        }
        return (int) (all / THOUSAND);
    }

    public int count(int what) {
        switch (what) {
            case 0:
                return ruleCount;
            case 1:
                return now.rowSize;
            case 2:
                return Integer.bitCount(now.rowFree);
            case 3:
                return now.carCount;
            case 4:
                return text.size;
            default:
                return OUTSIDE;
        }
    }

    public int keep(int i) {
        if (!isIn(i, 0, IMAGES - 1)) {
            return UNKNOWN;
        }
        images[i].copyFrom(now);
        kept[i] = true;
        return 1;
    }

    public int goBack(int i) {
        if (!isIn(i, 0, IMAGES - 1)) {
            return UNKNOWN;
        }
        if (!kept[i]) {
            return NOT;
        }
        now.copyFrom(images[i]);
        return 1;
    }

    // ---- what refuses

    private static boolean isIn(int value, int least, int most) {
        return value >= least && value <= most;
    }

    private boolean isStreet(int s) {
        return s >= 0 && s < STREETS && streets[s].doors() > 0;
    }

    private boolean isDoor(int s, int i) {
        return isStreet(s) && i >= 0 && i < streets[s].doors();
    }

    private boolean isRound(int s, int r) {
        return isIn(r, 0, streets[s].values[TIMES]);
    }

    private boolean isRule(int rule) {
        return rule >= 0 && rule < ruleCount;
    }

    private boolean isCar(int c) {
        return c >= 0 && c < now.carCount;
    }

    private boolean isSet(int s, int set) {
        return set >= 0 && set < (1 << streets[s].doors());
    }

    /** 0 where a sight can be asked for. */
    private int refuseSight(int s, int r, int i, int sight) {
        if (!isDoor(s, i)) {
            return UNKNOWN;
        }
        boolean inBounds = isRound(s, r) && sight >= 0 && sight < streets[s].sightsAt(i);
        return inBounds ? 0 : OUTSIDE;
    }

    /** 0 where a set of free doors can be asked for. */
    private int refuseSet(int s, int set) {
        if (!isStreet(s)) {
            return UNKNOWN;
        }
        return isSet(s, set) ? 0 : OUTSIDE;
    }

    /** Empties THE TEXT that was read; 0, or the answer that its FAULT asks for. */
    private int closeText() {
        text.size = 0;
        if (!text.failed()) {
            latestFault = NONE;
            return 0;
        }
        latestFault = text.faultByte;
        return FAULT_BASE - text.faultNumber;
    }

    /** (chance times one, and the rest of a hundred times the other) / 100: long, as a hundred costs pass an int. */
    private static int mixed(int chance, int ifFree, int ifNot) {
        return (int) (((long) chance * ifFree + (long) (HUNDRED - chance) * ifNot) / HUNDRED);
    }

    /** THE TEXT and one who reads it once from its first byte; only the first FAULT found counts. */
    private static final class Text {
        final byte[] bytes = new byte[TEXT_LIMIT];
        int size = 0;
        int at = 0;
        int numberAt = 0;
        int faultNumber = 0;
        int faultByte = 0;

        void append(byte next) {
            if (size < TEXT_LIMIT) {
                bytes[size] = next;
                size++;
            }
        }

        void rewind() {
            at = 0;
            numberAt = 0;
            faultNumber = 0;
            faultByte = 0;
        }

        boolean failed() {
            return faultNumber != 0;
        }

        void fail(int number, int where) {
            if (faultNumber == 0) {
                faultNumber = number;
                faultByte = where;
            }
        }

        /** NONE stands for the end, which no byte is. */
        int byteAt(int where) {
            return where >= 0 && where < size ? bytes[where] & 255 : NONE;
        }

        void skipBlanks() {
            while (at < size && byteAt(at) == ' ') {
                at++;
            }
        }

        boolean isAtEnd() {
            skipBlanks();
            return at >= size;
        }

        boolean isLetterAt(int where) {
            int here = byteAt(where);
            return here >= 'a' && here <= 'z';
        }

        boolean isFigureAt(int where) {
            int here = byteAt(where);
            return here >= '0' && here <= '9';
        }

        /** A word reaches as far as its letters do, so one that only begins like this one is another. */
        boolean takeWord(String word) {
            skipBlanks();
            int behind = at + word.length();
            for (int k = 0; k < word.length(); k++) {
                if (byteAt(at + k) != word.charAt(k)) {
                    return false;
                }
            }
            if (isLetterAt(behind)) {
                return false;
            }
            at = behind;
            return true;
        }

        void needWord(String word) {
            if (!failed() && !takeWord(word)) {
                fail(CANNOT_STAND, at);
            }
        }

        void needSemicolon() {
            skipBlanks();
            if (byteAt(at) == ';') {
                at++;
            } else {
                fail(CANNOT_STAND, at);
            }
        }

        /** Only a NUMBER that may be below 0 may have a '-'; with a FAULT the answer is the least that may be. */
        int needNumber(int least, int most) {
            if (failed()) {
                return least;
            }
            skipBlanks();
            numberAt = at;
            boolean below = least < 0 && byteAt(at) == '-';
            if (below) {
                at++;
            }
            int firstFigure = at;
            int value = 0;
            while (at < size && isFigureAt(at)) {
                if (at - firstFigure < MOST_FIGURES) {
                    value = value * 10 + byteAt(at) - '0';
                }
                at++;
            }
            if (below) {
                value = -value;
            }
            if (at == firstFigure) {
                fail(CANNOT_STAND, at);
            } else if (at - firstFigure > MOST_FIGURES || value < least || value > most) {
                fail(OUT_OF_BOUNDS, numberAt);
            }
            return failed() ? least : value;
        }
    }

    /** A STREET as its text tells it, and what follows from that at once. */
    private static final class Street {
        final int[] values = new int[TOLD];
        final int[] frees = new int[MOST_DOORS];
        final int[] prices = new int[MOST_DOORS];
        private final int[] lateness = new int[MOST_ROUNDS];

        int doors() {
            return values[DOORS];
        }

        /** Being late is the same at each DOOR of a ROUND, so it is reckoned here once for all. */
        void become(Street other) {
            System.arraycopy(other.values, 0, values, 0, TOLD);
            System.arraycopy(other.frees, 0, frees, 0, MOST_DOORS);
            System.arraycopy(other.prices, 0, prices, 0, MOST_DOORS);
            for (int r = 0; r < MOST_ROUNDS; r++) {
                lateness[r] = values[LATE] * Math.max(0, arrivalOf(r) - values[CURTAIN]);
            }
        }

        void readFrom(Text text) {
            System.arraycopy(NOT_TOLD, 0, values, 0, TOLD);
            int toldAlready = 0;
            for (int k = 0; k < TEXT_LIMIT && !text.failed() && !text.isAtEnd(); k++) {
                int begin = text.at;
                int clause = takeClauseWord(text);
                if (clause == NONE) {
                    text.fail(CANNOT_STAND, begin);
                } else if ((toldAlready >> clause & 1) != 0) {
                    text.fail(TOLD_ALREADY, begin);
                } else if (clause == DOORS) {
                    readDoors(text);
                } else {
                    readClause(text, clause);
                    toldAlready |= 1 << clause;
                }
            }
            if (!text.failed() && doors() == 0) {
                text.fail(CANNOT_STAND, text.size);
            }
        }

        private static int takeClauseWord(Text text) {
            for (int clause = DOORS; clause < TOLD; clause++) {
                if (clause != TIMES && text.takeWord(wordOf(clause))) {
                    return clause;
                }
            }
            return NONE;
        }

        private static String wordOf(int clause) {
            switch (clause) {
                case DOORS:
                    return "doors";
                case ALIKE:
                    return "alike";
                case WALK:
                    return "walk";
                case DRIVE:
                    return "drive";
                case LATE:
                    return "late";
                case CURTAIN:
                    return "curtain";
                case SEE:
                    return "see";
                case ROUND:
                    return "round";
                case TIMES:
                    return "times";
                default:
                    return "garage";
            }
        }

        private void readDoors(Text text) {
            int more = text.needNumber(LEAST[DOORS], MOST[DOORS]);
            int first = doors();
            if (!text.failed() && first + more > MOST_DOORS) {
                text.fail(ONE_DOOR_TOO_MANY, text.numberAt);
            }
            text.needWord("free");
            int free = text.needNumber(0, HUNDRED);
            text.needWord("price");
            int price = text.needNumber(0, 999);
            text.needSemicolon();
            if (text.failed()) {
                return;
            }
            for (int i = first; i < first + more && i < MOST_DOORS; i++) {
                frees[i] = free;
                prices[i] = price;
            }
            values[DOORS] = first + more;
        }

        private void readClause(Text text, int clause) {
            values[clause] = text.needNumber(LEAST[clause], MOST[clause]);
            if (clause == ROUND) {
                text.needWord(wordOf(TIMES));
                values[TIMES] = text.needNumber(LEAST[TIMES], MOST[TIMES]);
            }
            text.needSemicolon();
        }

        int chanceOf(int i, boolean aheadFree) {
            if (i == 0) {
                return frees[i];
            }
            int chance = aheadFree ? frees[i] + values[ALIKE] : frees[i] - values[ALIKE];
            return Math.max(0, Math.min(HUNDRED, chance));
        }

        /** When one stands at the theatre: a DOOR's TICK and its walk come to the same as the garage's TICK. */
        private int arrivalOf(int r) {
            return r * (values[DOORS] + values[ROUND]) + values[DOORS];
        }

        boolean isLateIn(int r) {
            return arrivalOf(r) > values[CURTAIN];
        }

        int takingOf(int r, int i) {
            return takingBy(values[WALK], r, i);
        }

        int takingBy(int walk, int r, int i) {
            return (prices[i] + walk * (values[DOORS] - i) + lateness[r]) * THOUSAND;
        }

        int garageOf(int r) {
            return (values[GARAGE] + lateness[r]) * THOUSAND;
        }

        int passing() {
            return values[DRIVE] * THOUSAND;
        }

        int roundDrive() {
            return values[DRIVE] * values[ROUND] * THOUSAND;
        }

        /** How many SIGHTS there are at a DOOR. */
        int sightsAt(int i) {
            return 1 << Math.min(values[SEE] + 1, values[DOORS] - i);
        }
    }

    /** What the best way costs in a STREET, for each ROUND, DOOR and SIGHT; reckoned once, when it is told. */
    private static final class BestWay {
        final Street street;
        final int[] onward = new int[MOST_ROUNDS * MOST_DOORS * MOST_SIGHTS];
        final int[] starts = new int[MOST_ROUNDS];
        final int[] ends = new int[MOST_ROUNDS];
        private final int[] folded = new int[MOST_SIGHTS];

        BestWay(Street street) {
            this.street = street;
        }

        void reckon() {
            for (int r = street.values[TIMES]; r >= 0; r--) {
                ends[r] = reckonEnd(r);
                for (int i = street.doors() - 1; i >= 0; i--) {
                    reckonDoor(r, i);
                }
                starts[r] = reckonStart(r);
            }
        }

        private int reckonEnd(int r) {
            int garage = street.garageOf(r);
            if (r >= street.values[TIMES]) {
                return garage;
            }
            return Math.min(garage, street.roundDrive() + starts[r + 1]);
        }

        private void reckonDoor(int r, int i) {
            boolean last = i == street.doors() - 1;
            for (int sight = 0; sight < street.sightsAt(i); sight++) {
                int follows = last ? ends[r] : reckonNext(r, i, sight);
                onward[slot(r, i, sight)] = street.passing() + follows;
            }
        }

        /** ON, by the SIGHT at DOOR i: with its bit 0 still there, as that may be the DOOR ahead of the new one. */
        private int reckonNext(int r, int i, int sight) {
            int see = street.values[SEE];
            int next = i + 1;
            int rest = sight >> 1;
            if (next + see >= street.doors()) {
                return worthOf(r, next, rest);
            }
            int chance = street.chanceOf(next + see, (sight >> see & 1) != 0);
            return mixed(chance, worthOf(r, next, rest | 1 << see), worthOf(r, next, rest));
        }

        private int reckonStart(int r) {
            int sights = street.sightsAt(0);
            for (int sight = 0; sight < sights && sight < MOST_SIGHTS; sight++) {
                folded[sight] = worthOf(r, 0, sight);
            }
            for (int j = street.values[SEE]; j >= 0; j--) {
                int bit = 1 << j;
                for (int sight = 0; bit < sights && sight < bit; sight++) {
                    boolean aheadFree = j > 0 && (sight >> (j - 1) & 1) != 0;
                    folded[sight] = mixed(street.chanceOf(j, aheadFree), folded[sight | bit], folded[sight]);
                }
            }
            return folded[0];
        }

        private static int slot(int r, int i, int sight) {
            return (r * MOST_DOORS + i) * MOST_SIGHTS + sight;
        }

        int onwardOf(int r, int i, int sight) {
            return onward[slot(r, i, sight)];
        }

        boolean isTaken(int r, int i, int sight) {
            return (sight & 1) != 0 && street.takingOf(r, i) <= onwardOf(r, i, sight);
        }

        int worthOf(int r, int i, int sight) {
            int onwards = onwardOf(r, i, sight);
            return (sight & 1) == 0 ? onwards : Math.min(onwards, street.takingOf(r, i));
        }

        int barOf(int r) {
            int bar = street.doors();
            while (bar > 0 && isTakenByAll(r, bar - 1)) {
                bar--;
            }
            for (int i = 0; i < bar; i++) {
                if (isTakenByAny(r, i)) {
                    return NONE;
                }
            }
            return bar;
        }

        private boolean isTakenByAll(int r, int i) {
            for (int sight = 1; sight < street.sightsAt(i); sight += 2) {
                if (!isTaken(r, i, sight)) {
                    return false;
                }
            }
            return true;
        }

        private boolean isTakenByAny(int r, int i) {
            for (int sight = 1; sight < street.sightsAt(i); sight += 2) {
                if (isTaken(r, i, sight)) {
                    return true;
                }
            }
            return false;
        }

        /** JUDGED: at a DOOR that is not free nothing can be wrong. */
        int firstWrong(int r, Scene scene, boolean lastTaken) {
            int size = Math.min(scene.rowSize, street.doors());
            for (int i = 0; i < size; i++) {
                int behindSight = Math.min(i + street.values[SEE] + 1, street.doors());
                if (behindSight <= size && scene.sawFree(i)) {
                    int sight = scene.rowFree >> i & (street.sightsAt(i) - 1);
                    boolean did = lastTaken && i == size - 1;
                    if (isTaken(r, i, sight) != did) {
                        return i;
                    }
                }
            }
            return NONE;
        }
    }

    /** A RULE: bars that begin to count when so many free DOORS were passed. */
    private static final class Rule {
        final int[] seen = new int[MOST_DOORS];
        final int[] from = new int[MOST_DOORS];
        int firstFrom = 0;
        int changes = 0;
        int rounds = 0;

        void readFrom(Text text) {
            changes = 0;
            rounds = 0;
            text.needWord("from");
            firstFrom = text.needNumber(0, MOST_DOORS);
            for (int k = 0; k < MOST_DOORS && !text.failed() && text.takeWord("seen"); k++) {
                readChange(text);
            }
            if (!text.failed() && text.takeWord("round")) {
                rounds = text.needNumber(0, MOST[TIMES]);
            }
            if (!text.failed() && !text.isAtEnd()) {
                text.fail(CANNOT_STAND, text.at);
            }
        }

        private void readChange(Text text) {
            int passed = text.needNumber(1, MOST_DOORS);
            if (!text.failed() && changes > 0 && passed <= seen[changes - 1]) {
                text.fail(TOLD_ALREADY, text.numberAt);
            }
            text.needWord("from");
            int bar = text.needNumber(0, MOST_DOORS);
            if (!text.failed() && changes < MOST_DOORS) {
                seen[changes] = passed;
                from[changes] = bar;
                changes++;
            }
        }

        int barAfter(int passed) {
            for (int k = changes - 1; k >= 0; k--) {
                if (seen[k] <= passed) {
                    return from[k];
                }
            }
            return firstFrom;
        }

        int roundsIn(Street street) {
            return Math.min(rounds, street.values[TIMES]);
        }
    }

    /** What IMAGES keep: THE ROW, CARS, THE SEED. */
    private static final class Scene {
        final int[] walks = new int[CARS];
        final int[] bars = new int[CARS];
        int carCount = 0;
        int rowSize = 0;
        int rowFree = 0;
        int seedNow = 0;

        void copyFrom(Scene other) {
            System.arraycopy(other.walks, 0, walks, 0, CARS);
            System.arraycopy(other.bars, 0, bars, 0, CARS);
            carCount = other.carCount;
            rowSize = other.rowSize;
            rowFree = other.rowFree;
            seedNow = other.seedNow;
        }

        int see(boolean free) {
            if (free) {
                rowFree |= 1 << rowSize;
            }
            rowSize++;
            return rowSize;
        }

        boolean sawFree(int i) {
            return (rowFree >> i & 1) != 0;
        }

        int addCar(int walk, int bar) {
            int number = carCount;
            if (number < CARS) {
                walks[number] = walk;
                bars[number] = bar;
                carCount++;
            }
            return number;
        }

        void takeBars(int[] others) {
            System.arraycopy(others, 0, bars, 0, CARS);
        }

        int draw() {
            seedNow = (int) ((seedNow * 1103515245L + 12345L) & 0x7fffffffL);
            return seedNow / 65536 % HUNDRED;
        }
    }

    /** Reckons from the last DOOR back over what is not known yet, and drives evenings; its rows are used again. */
    private static final class Reckoner {
        private final int[] afterFree = new int[PLACES];
        private final int[] afterTaken = new int[PLACES];
        private final int[] least = new int[PLACES];
        int waitTicks = 0;
        int waitCost = 0;

        int meanOf(Street street, Rule rule, int what) {
            int lastRound = rule.roundsIn(street);
            int follows = garageShare(street, lastRound, what);
            for (int r = lastRound; r >= 0; r--) {
                follows = meanOfRound(street, rule, what, r, follows);
                if (r > 0 && what == OF_COST) {
                    follows += street.roundDrive();
                }
            }
            return follows;
        }

        private static int garageShare(Street street, int r, int what) {
            switch (what) {
                case OF_COST:
                    return street.garageOf(r);
                case OF_LATE:
                    return street.isLateIn(r) ? MILLION : 0;
                default:
                    return MILLION;
            }
        }

        private static int doorShare(Street street, int r, int i, int what) {
            switch (what) {
                case OF_COST:
                    return street.takingOf(r, i);
                case OF_LATE:
                    return street.isLateIn(r) ? MILLION : 0;
                default:
                    return 0;
            }
        }

        /** Rows by how many free DOORS were passed; upwards, so that what a DOOR needs is not written over yet. */
        private int meanOfRound(Street street, Rule rule, int what, int r, int atEnd) {
            for (int passed = 0; passed <= street.doors(); passed++) {
                afterFree[passed] = atEnd;
                afterTaken[passed] = atEnd;
            }
            int passing = what == OF_COST ? street.passing() : 0;
            for (int i = street.doors() - 1; i >= 0; i--) {
                int share = doorShare(street, r, i, what);
                for (int passed = 0; passed <= i; passed++) {
                    boolean takes = i >= rule.barAfter(passed);
                    int ifFree = takes ? share : passing + afterFree[passed + 1];
                    int ifNot = passing + afterTaken[passed];
                    afterFree[passed] = mixed(street.chanceOf(i, true), ifFree, ifNot);
                    afterTaken[passed] = mixed(street.chanceOf(i, false), ifFree, ifNot);
                }
            }
            return afterTaken[0];
        }

        /** Rows by what is the least so far: 0 is THE END, k and 1 is DOOR k. */
        int boyOf(Street street, int end) {
            int n = street.doors();
            least[0] = end;
            for (int i = 0; i < n; i++) {
                least[i + 1] = street.takingOf(0, i);
            }
            for (int best = 0; best <= n; best++) {
                afterFree[best] = least[best];
                afterTaken[best] = least[best];
            }
            for (int i = n - 1; i >= 0; i--) {
                for (int best = 0; best <= i; best++) {
                    int ifFree = afterFree[least[i + 1] < least[best] ? i + 1 : best];
                    int ifNot = afterTaken[best];
                    afterFree[best] = mixed(street.chanceOf(i, true), ifFree, ifNot);
                    afterTaken[best] = mixed(street.chanceOf(i, false), ifFree, ifNot);
                }
            }
            return afterTaken[0];
        }

        /** WAIT, into waitTicks and waitCost. */
        void reckonWait(int onward, int place, int q, int u) {
            waitTicks = 0;
            waitCost = onward;
            int cost = onward;
            for (int m = 1; m <= MOST_WAITING; m++) {
                cost = THOUSAND * u + mixed(q, place, cost);
                if (cost < waitCost) {
                    waitCost = cost;
                    waitTicks = m;
                }
            }
        }

        int thoughtOf(Street a, Street b, Scene scene) {
            long w = MILLION / 2;
            long v = MILLION / 2;
            int size = Math.min(scene.rowSize, Math.min(a.doors(), b.doors()));
            boolean ahead = false;
            for (int i = 0; i < size; i++) {
                boolean free = scene.sawFree(i);
                w = w * likelihood(a, i, ahead, free) / HUNDRED;
                v = v * likelihood(b, i, ahead, free) / HUNDRED;
                long greater = Math.max(w, v);
                if (greater > 0) {
                    w = w * MILLION / greater;
                    v = v * MILLION / greater;
                }
                ahead = free;
            }
            long both = w + v;
            return both > 0 ? (int) (w * MILLION / both) : 0;
        }

        private static int likelihood(Street street, int i, boolean ahead, boolean free) {
            int chance = street.chanceOf(i, ahead);
            return free ? chance : HUNDRED - chance;
        }

        int eveningOf(Street street, Rule rule, Scene scene) {
            int lastRound = rule.roundsIn(street);
            int cost = 0;
            for (int r = 0; r <= lastRound; r++) {
                int passed = 0;
                boolean ahead = false;
                for (int i = 0; i < street.doors(); i++) {
                    boolean free = scene.draw() < street.chanceOf(i, ahead);
                    if (free && i >= rule.barAfter(passed)) {
                        return cost + street.takingOf(r, i);
                    }
                    cost += street.passing();
                    passed += free ? 1 : 0;
                    ahead = free;
                }
                if (r < lastRound) {
                    cost += street.roundDrive();
                }
            }
            return cost + street.garageOf(lastRound);
        }
    }

    /** CARS at a STREET with a SET of free DOORS; works on a copy of their BARS. A place is a DOOR, or n: the garage. */
    private static final class Parking {
        final Scene scene;
        final int[] bars = new int[CARS];
        private final int[] costs = new int[CARS * PLACES];
        private final int[] given = new int[1 << CARS];
        private int n = 0;
        private int free = 0;
        private int dearFrom = 0;
        private int dearer = 0;

        Parking(Scene scene) {
            this.scene = scene;
        }

        void comeTo(Street street, int set) {
            n = street.doors();
            free = set;
            dearFrom = 0;
            dearer = 0;
            System.arraycopy(scene.bars, 0, bars, 0, CARS);
            for (int c = 0; c < scene.carCount; c++) {
                for (int i = 0; i < n; i++) {
                    costs[c * PLACES + i] = street.takingBy(scene.walks[c], 0, i) + i * street.passing();
                }
                costs[c * PLACES + n] = street.garageOf(0) + n * street.passing();
            }
        }

        int costAt(int c, int place) {
            return costs[c * PLACES + place];
        }

        private int paidAt(int c, int place) {
            boolean dear = place >= dearFrom && place < n;
            return costAt(c, place) + (dear ? dearer : 0);
        }

        private int placeFrom(int bar, int left) {
            for (int i = bar; i < n; i++) {
                if ((left >> i & 1) != 0) {
                    return i;
                }
            }
            return n;
        }

        /** The garage is no DOOR of the SET, so its bit takes nothing away. */
        private int leftBehind(int c, int left) {
            return left & ~(1 << placeFrom(bars[c], left));
        }

        int placeOf(int c) {
            int left = free;
            for (int ahead = 0; ahead < c; ahead++) {
                left = leftBehind(ahead, left);
            }
            return placeFrom(bars[c], left);
        }

        /** From the last BAR back, so that of like ones the least is found last. */
        private int bestBar(int c, int left) {
            int best = n;
            int place = best;
            int least = paidAt(c, place);
            for (int b = n - 1; b >= 0; b--) {
                if ((left >> b & 1) != 0) {
                    place = b;
                }
                int paid = paidAt(c, place);
                if (paid <= least) {
                    least = paid;
                    best = b;
                }
            }
            // A BAR behind n is none of those that may be taken, though it is the garage too.
            boolean ownIsLike = bars[c] <= n && paidAt(c, placeFrom(bars[c], left)) == least;
            return ownIsLike ? bars[c] : best;
        }

        boolean isAtRest() {
            int left = free;
            for (int c = 0; c < scene.carCount; c++) {
                int best = placeFrom(bestBar(c, left), left);
                if (paidAt(c, best) < paidAt(c, placeFrom(bars[c], left))) {
                    return false;
                }
                left = leftBehind(c, left);
            }
            return true;
        }

        /** How many TURNS changed some; NONE, if the last one that may be did. */
        int goByTurns() {
            for (int turns = 0; turns < MOST_TURNS; turns++) {
                if (!changeInTurn()) {
                    return turns;
                }
            }
            return NONE;
        }

        private boolean changeInTurn() {
            boolean changed = false;
            int left = free;
            for (int c = 0; c < scene.carCount; c++) {
                int best = bestBar(c, left);
                if (best != bars[c]) {
                    bars[c] = best;
                    changed = true;
                }
                left = leftBehind(c, left);
            }
            return changed;
        }

        /** Of two CARS at most; one that there is not has one row alone. */
        int countRests() {
            int mostFirst = scene.carCount > 0 ? n : 0;
            int mostSecond = scene.carCount > 1 ? n : 0;
            int rests = 0;
            for (int first = 0; first <= mostFirst; first++) {
                for (int second = 0; second <= mostSecond; second++) {
                    bars[0] = first;
                    bars[1] = second;
                    rests += isAtRest() ? 1 : 0;
                }
            }
            return rests;
        }

        int costOfAll() {
            int all = 0;
            int left = free;
            for (int c = 0; c < scene.carCount; c++) {
                all += costAt(c, placeFrom(bars[c], left));
                left = leftBehind(c, left);
            }
            return all;
        }

        /** Reckons for each SET of CARS, if these alone may be given a DOOR; the last SET is all of them. */
        int leastOfAll() {
            int sets = 1 << scene.carCount;
            for (int set = 0; set < sets; set++) {
                given[set] = 0;
                for (int c = 0; c < scene.carCount; c++) {
                    given[set] += costAt(c, n);
                }
            }
            for (int i = 0; i < n; i++) {
                if ((free >> i & 1) != 0) {
                    giveDoor(i, sets);
                }
            }
            return given[sets - 1];
        }

        /** Downwards, so that a DOOR is given to one CAR at most. */
        private void giveDoor(int i, int sets) {
            for (int set = sets - 1; set > 0; set--) {
                for (int c = 0; c < scene.carCount; c++) {
                    if ((set >> c & 1) != 0) {
                        int with = given[set & ~(1 << c)] + costAt(c, i) - costAt(c, n);
                        given[set] = Math.min(given[set], with);
                    }
                }
            }
        }

        /** The least that all could have is the same for each price, so the least COST of all tells the least LOST. */
        int mendingPrice(int x) {
            dearFrom = x;
            int mended = 0;
            int least = 0;
            for (int p = 0; p <= MOST_PRICES; p++) {
                dearer = 10 * p * THOUSAND;
                for (int c = 0; c < CARS; c++) {
                    bars[c] = 0;
                }
                goByTurns();
                int all = costOfAll();
                if (p == 0 || all < least) {
                    least = all;
                    mended = p;
                }
            }
            return mended;
        }
    }
}
