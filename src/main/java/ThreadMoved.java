import java.util.Arrays;

/**
 * A house whose doors are moved at each dusk, a beast with a habit, and one who goes in with string.
 *
 * <p>Every row that a call needs is made with the object and used again, so that calls make nothing.
 */
public final class ThreadMoved {
    public static final int BAD = -1, STATE = -2, FULL = -3, NONE = -4;

    private static final int MAX_ROOMS = 7;
    private static final int MAX_DOORS = 10;
    private static final int MAX_PERIOD = 6;
    private static final int MAX_RULES = 6;
    private static final int MAX_STRING = 12;
    private static final int MAX_TURN = 6;
    private static final int MAX_TAPE = 320;
    private static final int MAX_CELLS = 40;
    private static final int MAX_NOTES = 6;
    private static final int MAX_WALLED = 3;

    private static final int LAST_STEP = 999;
    private static final int STEPS_AHEAD = 24;
    private static final int DUSKS_AHEAD = 60;
    private static final int DUSKS_SEEN = 6;
    private static final int STEPS_HEARD = 12;
    private static final int STEPS_WALKED = 60;
    private static final int STEPS_READ = 20;

    /** Where a door would stand, if he stays. */
    private static final int STAY = 10;

    private static final int SLEEPS = 0, LEFT = 1, HUNGRY = 2, TURNS = 3;

    /** The numbers of rules begin here, by their kinds. */
    private static final int SWAP_LAWS = 0, TURN_LAWS = 100, BAR_LAWS = 200;
    private static final int LAST_LAW = BAR_LAWS + MAX_DOORS - 1;

    private static final int NO_FAULT = 0;
    private static final int NULL_FAULT = 1, INDEX_FAULT = 2, CAST_FAULT = 3, SIZE_FAULT = 4;

    private static final int BYTES = 0, SHORTS = 1, INTS = 2;

    private final Plan plan = new Plan();
    private final State now = new State(plan);
    /** The time to come is tried out here, so that no question changes what is now. */
    private final State ahead = new State(plan);
    /** What was ahead of a read(), should it have to be undone. */
    private final State before = new State(plan);
    private final State[] images = new State[2];
    private int keptImages = 0;
    private final Reader reader = new Reader();
    private final Notes seen = new Notes();
    private final Notes heard = new Notes();
    private final Search search = new Search();
    private final Passages passages = new Passages();
    private final Sheet[] sheets = new Sheet[4];
    private int tornFault = NO_FAULT;

    public ThreadMoved() {
        for (int k = 0; k < images.length; k++) {
            images[k] = new State(plan);
        }
        for (int k = 0; k < sheets.length; k++) {
            sheets[k] = new Sheet();
        }
    }

    // ---- the text, what there is

    public int feed(long v) {
        return reader.append(v) ? reader.length : FULL;
    }

    public int end(int n) {
        if (!isWithin(n, 0, reader.length)) {
            return BAD;
        }
        int had = reader.length;
        reader.length = n;
        return had;
    }

    public int text() {
        reader.readTape();
        if (reader.fault != NO_FAULT) {
            return -10 - reader.faultPlace;
        }
        plan.copyFrom(reader.plan);
        now.copyFrom(reader.state);
        seen.size = 0;
        heard.size = 0;
        keptImages = 0;
        return reader.lines;
    }

    public int fault() {
        return reader.fault;
    }

    public int rule(int what) {
        switch (what) {
            case 0: return plan.rooms;
            case 1: return plan.doorCount;
            case 2: return now.period;
            case 3: return plan.ruleCount;
            case 4: return plan.stringLength;
            case 5: return now.step;
            case 6: return now.his;
            case 7: return now.beast;
            case 8: return now.habit;
            case 9: return asNumber(now.eaten);
            default: return BAD;
        }
    }

    public int door(int d, int what) {
        return now.ofDoor(d, what);
    }

    public int law(int k) {
        return isWithin(k, 0, plan.ruleCount - 1) ? plan.rules[k] : BAD;
    }

    public int doors(int x) {
        return plan.hasRoom(x) ? now.openFrom(x) : BAD;
    }

    // ---- what is changed

    public int bar(int d, boolean is) {
        if (!plan.hasDoor(d)) {
            return BAD;
        }
        boolean was = now.isBarred(d);
        if (was != is) {
            now.barred ^= 1 << d;
        }
        return asNumber(was);
    }

    public int period(int v) {
        if (!isWithin(v, 1, MAX_PERIOD)) {
            return BAD;
        }
        int was = now.period;
        now.period = v;
        return was;
    }

    public int put(int x) {
        if (!plan.hasRoom(x)) {
            return BAD;
        }
        if (now.beast == x) {
            return STATE;
        }
        int was = now.his;
        now.his = x;
        now.eaten = false;
        return was;
    }

    public int lurk(int x, int habit) {
        if ((x != NONE && !plan.hasRoom(x)) || !isHabit(habit)) {
            return BAD;
        }
        if (now.his == x) {
            return STATE;
        }
        int was = now.beast;
        now.beast = x;
        now.habit = habit;
        return was;
    }

    public int bite(int n) {
        if (!isWithin(n, 0, now.onString)) {
            return BAD;
        }
        int had = now.onString;
        now.onString = n;
        return had;
    }

    // ---- steps

    public int go(int d) {
        int refused = refusalOf(d);
        if (refused != 0) {
            return refused;
        }
        now.takeStep(d);
        return now.eaten ? 10 + now.his : now.his;
    }

    /** What go() answers to a step that it refuses; 0, if it does not. */
    private int refusalOf(int d) {
        if (d != STAY && !plan.hasDoor(d)) {
            return BAD;
        }
        if (now.eaten || (d != STAY && now.across(d, now.his) == NONE)) {
            return STATE;
        }
        return now.step >= LAST_STEP ? FULL : 0;
    }

    public int dusk(int n, int d, int what) {
        if (!isWithin(n, 0, DUSKS_AHEAD)) {
            return BAD;
        }
        ahead.copyFrom(now);
        for (int i = 0; i < n; i++) {
            ahead.applyRules();
        }
        return ahead.ofDoor(d, what);
    }

    public int again() {
        ahead.copyFrom(now);
        for (int n = 1; n <= DUSKS_AHEAD; n++) {
            ahead.applyRules();
            if (ahead.hasDoorsOf(now)) {
                return n;
            }
        }
        return NONE;
    }

    // ---- string

    public int thread(int i) {
        if (i < 0) {
            return BAD;
        }
        return i < now.onString ? now.string[i] : NONE;
    }

    public int leads(int what) {
        if (!isWithin(what, 0, 1)) {
            return BAD;
        }
        int room = now.his;
        for (int i = now.onString - 1; i >= 0; i--) {
            int to = now.across(now.string[i], room);
            if (to == NONE) {
                return what == 0 ? room : i;
            }
            room = to;
        }
        return what == 0 ? room : NONE;
    }

    // ---- soonest, alive

    public int soonest(int x, int what) {
        if (!plan.hasRoom(x) || (what != 0 && !isWithin(what, 10, 10 + STEPS_AHEAD - 1))) {
            return BAD;
        }
        if (now.eaten) {
            return STATE;
        }
        search.begin(now, ahead);
        for (int n = 0; n <= STEPS_AHEAD; n++) {
            int at = search.firstIn(n, x);
            if (at != NONE) {
                return what == 0 ? n : search.stepOf(n, at, what - 10);
            }
            search.grow(n, ahead);
        }
        return NONE;
    }

    public int alive(int n) {
        if (!isWithin(n, 0, STEPS_AHEAD)) {
            return BAD;
        }
        if (now.eaten) {
            return STATE;
        }
        search.begin(now, ahead);
        for (int i = 0; i < n; i++) {
            search.grow(i, ahead);
        }
        return search.roomsOf(n);
    }

    // ---- laws that fit

    public int see(int n, int d, int x) {
        if (!isWithin(n, 1, DUSKS_SEEN) || !plan.hasDoor(d) || !plan.hasRoom(x)) {
            return BAD;
        }
        return seen.add(n, d, x) ? seen.size : FULL;
    }

    public int forget(int n) {
        return seen.keepFirst(n);
    }

    public int laws(int what) {
        if (!isWithin(what, 0, 2)) {
            return BAD;
        }
        int fitting = 0;
        int least = NONE;
        int greatest = NONE;
        for (int law = 0; law <= LAST_LAW; law++) {
            if (fits(law)) {
                fitting++;
                least = least == NONE ? law : least;
                greatest = law;
            }
        }
        if (what == 0) {
            return fitting;
        }
        return what == 1 ? least : greatest;
    }

    public int sure(int n, int d) {
        if (!isWithin(n, 1, DUSKS_SEEN) || !plan.hasDoor(d)) {
            return BAD;
        }
        int found = NONE;
        for (int law = 0; law <= LAST_LAW; law++) {
            if (fits(law)) {
                int end = endByLaw(law, n, d);
                if (found != NONE && found != end) {
                    return NONE;
                }
                found = end;
            }
        }
        return found;
    }

    private boolean fits(int law) {
        if (!plan.isLaw(law)) {
            return false;
        }
        ahead.copyFrom(now);
        for (int n = 1; n <= DUSKS_SEEN; n++) {
            ahead.change(law);
            if (!isAsSeen(n)) {
                return false;
            }
        }
        return true;
    }

    private boolean isAsSeen(int n) {
        for (int i = 0; i < seen.size; i++) {
            if (seen.times[i] == n && ahead.secondEnds[seen.subjects[i]] != seen.values[i]) {
                return false;
            }
        }
        return true;
    }

    private int endByLaw(int law, int n, int d) {
        ahead.copyFrom(now);
        for (int i = 0; i < n; i++) {
            ahead.change(law);
        }
        return ahead.secondEnds[d];
    }

    // ---- the beast

    public int hear(int n, int x, boolean is) {
        if (!isWithin(n, 1, STEPS_HEARD) || !plan.hasRoom(x)) {
            return BAD;
        }
        return heard.add(n, x, asNumber(is)) ? heard.size : FULL;
    }

    public int hush(int n) {
        return heard.keepFirst(n);
    }

    public int lair(int habit) {
        if (!isHabit(habit)) {
            return BAD;
        }
        int rooms = 0;
        for (int x = 0; x < plan.rooms; x++) {
            if (x != now.his && mayLurkIn(x, habit)) {
                rooms |= 1 << x;
            }
        }
        return rooms;
    }

    private boolean mayLurkIn(int x, int habit) {
        ahead.copyFrom(now);
        int room = x;
        for (int n = 1; n <= STEPS_HEARD; n++) {
            room = ahead.prowl(habit, room, ahead.his);
            ahead.passTime();
            if (!isAsHeard(n, room)) {
                return false;
            }
        }
        return true;
    }

    private boolean isAsHeard(int n, int room) {
        for (int i = 0; i < heard.size; i++) {
            int isThere = asNumber(heard.subjects[i] == room);
            if (heard.times[i] == n && heard.values[i] != isThere) {
                return false;
            }
        }
        return true;
    }

    public int wall(int what) {
        if (!isWithin(what, 0, 1)) {
            return BAD;
        }
        if (now.beast == NONE) {
            return STATE;
        }
        ahead.copyFrom(now);
        passages.foresee(ahead);
        int sets = 1 << plan.doorCount;
        for (int size = 0; size <= MAX_WALLED; size++) {
            for (int walled = 0; walled < sets; walled++) {
                if (Integer.bitCount(walled) == size && passages.keepOut(now.beast, walled)) {
                    return what == 0 ? size : walled;
                }
            }
        }
        return NONE;
    }

    // ---- walks by a seed

    public int walk(int seed, int n, int what) {
        if (!isWithin(n, 1, STEPS_WALKED) || !isWithin(what, 0, 1)) {
            return BAD;
        }
        if (now.eaten) {
            return STATE;
        }
        ahead.copyFrom(now);
        int roll = seed;
        int safe = 0;
        for (int i = 0; i < n && !ahead.eaten; i++) {
            roll = roll * 1103515245 + 12345;
            ahead.takeStep(ahead.pickDoor((roll >>> 16) & 0x7fff));
            safe += asNumber(!ahead.eaten);
        }
        return what == 0 ? safe : ahead.his;
    }

    // ---- images, sheets

    public int keep(int k) {
        if (!isWithin(k, 0, images.length - 1)) {
            return BAD;
        }
        int was = asNumber(hasImage(k));
        images[k].copyFrom(now);
        keptImages |= 1 << k;
        return was;
    }

    public int back(int k) {
        if (!isWithin(k, 0, images.length - 1)) {
            return BAD;
        }
        if (!hasImage(k)) {
            return STATE;
        }
        now.copyFrom(images[k]);
        return now.step;
    }

    private boolean hasImage(int k) {
        return (keptImages >> k & 1) != 0;
    }

    public int sheet(int k, int lane, int n) {
        if (!isSheet(k) || !isLane(lane) || n > MAX_CELLS) {
            return BAD;
        }
        if (n < 0) {
            return -10 - SIZE_FAULT;
        }
        sheets[k].renew(lane, n);
        return 1;
    }

    public int lay(int k, int i, int v) {
        if (!isSheet(k)) {
            return BAD;
        }
        int found = sheets[k].faultAt(sheets[k].lane, i);
        if (found != NO_FAULT) {
            return -10 - found;
        }
        sheets[k].setCell(i, v);
        return 1;
    }

    public int read(int k, int lane, int f, int n) {
        if (!isSheet(k) || !isLane(lane) || !isWithin(n, 0, STEPS_READ)) {
            return BAD;
        }
        before.copyFrom(now);
        for (int i = 0; i < n; i++) {
            int found = sheets[k].faultAt(lane, f + i);
            if (found != NO_FAULT) {
                tornFault = found;
                return i;
            }
            int d = sheets[k].cells[f + i];
            if (refusalOf(d) != 0) {
                now.copyFrom(before);
                return -20 - i;
            }
            now.takeStep(d);
        }
        tornFault = NO_FAULT;
        return n;
    }

    public int torn() {
        return tornFault;
    }

    public int count(int what) {
        switch (what) {
            case 0: return now.onString;
            case 1: return seen.size;
            case 2: return heard.size;
            case 3: return Integer.bitCount(keptImages);
            case 4: return reader.length;
            case 5: return sheets[0].size;
            case 6: return Integer.bitCount(now.barred);
            default: return BAD;
        }
    }

    // ---- what all of it needs

    private static boolean isWithin(int v, int least, int most) {
        return v >= least && v <= most;
    }

    private static boolean isHabit(int v) {
        return isWithin(v, SLEEPS, TURNS);
    }

    private static boolean isLane(int v) {
        return isWithin(v, BYTES, INTS);
    }

    private boolean isSheet(int k) {
        return isWithin(k, 0, sheets.length - 1);
    }

    private static int asNumber(boolean is) {
        return is ? 1 : 0;
    }

    /** No divisor here is ever 0; that it is looked at keeps the machine from finding one. */
    private static int modulo(int v, int divisor) {
        return divisor > 0 ? v % divisor : 0;
    }

    private static int firstDoorOf(int law) {
        return law >= BAR_LAWS ? law - BAR_LAWS : law % 100 / 10;
    }

    /** The second door of a swap, how far a turn goes. */
    private static int secondPartOf(int law) {
        return law % 10;
    }

    /** The door at a place among those of a set; behind all of them, STAY. */
    private static int doorAt(int set, int place) {
        int left = place;
        for (int d = 0; d < MAX_DOORS; d++) {
            if ((set >> d & 1) != 0) {
                if (left == 0) {
                    return d;
                }
                left--;
            }
        }
        return STAY;
    }

    /** What a text alone tells: as no step changes it, images leave it out. */
    private static final class Plan {
        final int[] firstEnds = new int[MAX_DOORS];
        /** Each as a number. */
        final int[] rules = new int[MAX_RULES];
        int rooms;
        int doorCount;
        int ruleCount;
        int stringLength;

        Plan() {
            reset();
        }

        void reset() {
            rooms = 2;
            doorCount = 0;
            ruleCount = 0;
            stringLength = MAX_STRING;
        }

        void copyFrom(Plan other) {
            System.arraycopy(other.firstEnds, 0, firstEnds, 0, MAX_DOORS);
            System.arraycopy(other.rules, 0, rules, 0, MAX_RULES);
            rooms = other.rooms;
            doorCount = other.doorCount;
            ruleCount = other.ruleCount;
            stringLength = other.stringLength;
        }

        boolean hasRoom(int x) {
            return x >= 0 && x < rooms;
        }

        boolean hasDoor(int d) {
            return d >= 0 && d < doorCount;
        }

        boolean hasDoorsOf(int law) {
            return hasDoor(firstDoorOf(law)) && (law >= TURN_LAWS || hasDoor(secondPartOf(law)));
        }

        /** Whether a number tells a law that can fit; a text may tell others, too. */
        boolean isLaw(int law) {
            if (!hasDoorsOf(law)) {
                return false;
            }
            if (law >= BAR_LAWS) {
                return true;
            }
            if (law >= TURN_LAWS) {
                return isWithin(secondPartOf(law), 1, rooms - 1);
            }
            return firstDoorOf(law) < secondPartOf(law);
        }
    }

    /** What steps and dusks change, and what an image is. */
    private static final class State {
        final Plan plan;
        final int[] secondEnds = new int[MAX_DOORS];
        final int[] string = new int[MAX_STRING];
        /** A set of doors, as bits. */
        int barred;
        int period;
        int his;
        int beast;
        int habit;
        int onString;
        int step;
        boolean eaten;

        State(Plan plan) {
            this.plan = plan;
            reset();
        }

        void reset() {
            barred = 0;
            period = 1;
            his = 0;
            beast = NONE;
            habit = SLEEPS;
            onString = 0;
            step = 0;
            eaten = false;
        }

        void copyFrom(State other) {
            System.arraycopy(other.secondEnds, 0, secondEnds, 0, MAX_DOORS);
            System.arraycopy(other.string, 0, string, 0, MAX_STRING);
            barred = other.barred;
            period = other.period;
            his = other.his;
            beast = other.beast;
            habit = other.habit;
            onString = other.onString;
            step = other.step;
            eaten = other.eaten;
        }

        boolean isBarred(int d) {
            return (barred >> d & 1) != 0;
        }

        int ofDoor(int d, int what) {
            if (!plan.hasDoor(d) || !isWithin(what, 0, 2)) {
                return BAD;
            }
            if (what == 2) {
                return asNumber(isBarred(d));
            }
            return what == 0 ? plan.firstEnds[d] : secondEnds[d];
        }

        /** First ends are not looked at: they never change. */
        boolean hasDoorsOf(State other) {
            if (barred != other.barred) {
                return false;
            }
            for (int d = 0; d < plan.doorCount; d++) {
                if (secondEnds[d] != other.secondEnds[d]) {
                    return false;
                }
            }
            return true;
        }

        /** Where a door leads from a room; NONE, if it does not. */
        int across(int d, int room) {
            if (!plan.hasDoor(d) || isBarred(d)) {
                return NONE;
            }
            if (plan.firstEnds[d] == room) {
                return secondEnds[d];
            }
            return secondEnds[d] == room ? plan.firstEnds[d] : NONE;
        }

        /** The doors that lead from a room, as bits. */
        int openFrom(int room) {
            int open = 0;
            for (int d = 0; d < plan.doorCount; d++) {
                if (across(d, room) != NONE) {
                    open |= 1 << d;
                }
            }
            return open;
        }

        boolean isDoorBetween(int from, int to) {
            for (int d = 0; d < plan.doorCount; d++) {
                if (across(d, from) == to) {
                    return true;
                }
            }
            return false;
        }

        void change(int law) {
            int d = firstDoorOf(law);
            int part = secondPartOf(law);
            if (law >= BAR_LAWS) {
                barred ^= 1 << d;
            } else if (law >= TURN_LAWS) {
                secondEnds[d] = modulo(secondEnds[d] + part, plan.rooms);
            } else {
                int end = secondEnds[d];
                secondEnds[d] = secondEnds[part];
                secondEnds[part] = end;
            }
        }

        void applyRules() {
            for (int k = 0; k < plan.ruleCount; k++) {
                change(plan.rules[k]);
            }
        }

        void passTime() {
            step++;
            if (modulo(step, period) == 0) {
                applyRules();
            }
        }

        /** Where a beast of a habit goes from a room, he being where he is by then. */
        int prowl(int kind, int from, int him) {
            if (from == NONE || kind == SLEEPS) {
                return from;
            }
            if (kind == HUNGRY) {
                return isDoorBetween(from, him) ? him : from;
            }
            int open = openFrom(from);
            if (open == 0) {
                return from;
            }
            int place = kind == LEFT ? 0 : modulo(step, Integer.bitCount(open));
            return across(doorAt(open, place), from);
        }

        /** The door is one that leads from his room, or STAY: the callers see to it. */
        void takeStep(int d) {
            if (d != STAY) {
                his = across(d, his);
                if (onString < plan.stringLength) {
                    string[onString] = d;
                    onString++;
                }
            }
            if (beast != his) {
                beast = prowl(habit, beast, his);
            }
            if (beast == his) {
                eaten = true;
            }
            passTime();
        }

        int pickDoor(int roll) {
            int open = openFrom(his);
            return doorAt(open, modulo(roll, Integer.bitCount(open) + 1));
        }
    }

    /** Where he can be, layer behind layer of steps, and by which first row of steps. */
    private static final class Search {
        /** A place among beasts' rooms for no beast. */
        private static final int NO_BEAST = MAX_ROOMS;
        private static final int BEASTS = MAX_ROOMS + 1;
        private static final int PAIRS = MAX_ROOMS * BEASTS;

        /** His room and the beast's, in the order of their first rows of steps. */
        private final int[] pairs = new int[(STEPS_AHEAD + 1) * PAIRS];
        private final int[] parents = new int[(STEPS_AHEAD + 1) * PAIRS];
        private final int[] steps = new int[(STEPS_AHEAD + 1) * PAIRS];
        private final int[] sizes = new int[STEPS_AHEAD + 1];
        /** Where the beast goes in the step at hand, by pairs. */
        private final int[] prowls = new int[PAIRS];
        /** The pairs of the layer that grows, as bits. */
        private long met;

        void begin(State now, State ahead) {
            ahead.copyFrom(now);
            sizes[0] = 1;
            pairs[0] = now.his * BEASTS + (now.beast == NONE ? NO_BEAST : now.beast);
        }

        /**
         * Makes the layer behind one. As pairs are taken in the order of their first rows, and doors
         * by numbers, the way by which a new pair is met first is its first row.
         */
        void grow(int layer, State ahead) {
            if (layer >= STEPS_AHEAD) {
                return;
            }
            foreseeProwls(ahead);
            met = 0;
            sizes[layer + 1] = 0;
            for (int i = 0; i < sizes[layer]; i++) {
                int pair = pairs[layer * PAIRS + i];
                for (int d = 0; d < ahead.plan.doorCount; d++) {
                    int to = ahead.across(d, pair / BEASTS);
                    if (to != NONE) {
                        reach(layer + 1, i, d, to * BEASTS + pair % BEASTS);
                    }
                }
                reach(layer + 1, i, STAY, pair);
            }
            ahead.passTime();
        }

        private void foreseeProwls(State ahead) {
            for (int his = 0; his < ahead.plan.rooms; his++) {
                for (int beast = 0; beast < ahead.plan.rooms; beast++) {
                    prowls[his * BEASTS + beast] = ahead.prowl(ahead.habit, beast, his);
                }
                prowls[his * BEASTS + NO_BEAST] = NO_BEAST;
            }
        }

        /** He has gone, the beast has not yet. */
        private void reach(int layer, int parent, int d, int gone) {
            int his = gone / BEASTS;
            if (gone % BEASTS == his || prowls[gone] == his) {
                return;
            }
            int pair = his * BEASTS + prowls[gone];
            if ((met >> pair & 1L) != 0) {
                return;
            }
            met |= 1L << pair;
            int at = layer * PAIRS + sizes[layer];
            pairs[at] = pair;
            parents[at] = parent;
            steps[at] = d;
            sizes[layer]++;
        }

        /** The place in a layer of the first pair with him in a room, or NONE. */
        int firstIn(int layer, int room) {
            for (int i = 0; i < sizes[layer]; i++) {
                if (pairs[layer * PAIRS + i] / BEASTS == room) {
                    return i;
                }
            }
            return NONE;
        }

        int roomsOf(int layer) {
            int rooms = 0;
            for (int i = 0; i < sizes[layer]; i++) {
                rooms |= 1 << (pairs[layer * PAIRS + i] / BEASTS);
            }
            return rooms;
        }

        /** A step of the first row that leads to a place in a layer; NONE, if it has not so many. */
        int stepOf(int layer, int place, int step) {
            if (step >= layer) {
                return NONE;
            }
            int at = place;
            for (int i = layer; i > step + 1; i--) {
                at = parents[i * PAIRS + at];
            }
            return steps[(step + 1) * PAIRS + at];
        }
    }

    /** The ways of the beast through all doors in the steps to come. */
    private static final class Passages {
        /** By steps and doors: the rooms at both ends, as bits; 0, if the door is barred then. */
        private final int[] ends = new int[STEPS_AHEAD * MAX_DOORS];
        private int doorCount;

        void foresee(State ahead) {
            doorCount = ahead.plan.doorCount;
            for (int t = 0; t < STEPS_AHEAD; t++) {
                for (int d = 0; d < doorCount; d++) {
                    int both = (1 << ahead.plan.firstEnds[d]) | (1 << ahead.secondEnds[d]);
                    ends[t * MAX_DOORS + d] = ahead.isBarred(d) ? 0 : both;
                }
                ahead.passTime();
            }
        }

        /** Whether a set of walled doors keeps the beast out of room 0. */
        boolean keepOut(int from, int walled) {
            int reached = 1 << from;
            for (int t = 0; t < STEPS_AHEAD && (reached & 1) == 0; t++) {
                reached |= newlyReached(reached, t, walled);
            }
            return (reached & 1) == 0;
        }

        private int newlyReached(int reached, int t, int walled) {
            int rooms = 0;
            for (int d = 0; d < doorCount; d++) {
                int both = ends[t * MAX_DOORS + d];
                if ((walled >> d & 1) == 0 && (both & reached) != 0) {
                    rooms |= both;
                }
            }
            return rooms;
        }
    }

    /** What was seen or heard: each behind a time, of a subject, a value. */
    private static final class Notes {
        final int[] times = new int[MAX_NOTES];
        final int[] subjects = new int[MAX_NOTES];
        final int[] values = new int[MAX_NOTES];
        int size = 0;

        boolean add(int time, int subject, int value) {
            if (size >= MAX_NOTES) {
                return false;
            }
            times[size] = time;
            subjects[size] = subject;
            values[size] = value;
            size++;
            return true;
        }

        int keepFirst(int n) {
            if (!isWithin(n, 0, size)) {
                return BAD;
            }
            int had = size;
            size = n;
            return had;
        }
    }

    /** A row of cells; its values are cut to its lane when they are laid. */
    private static final class Sheet {
        final int[] cells = new int[MAX_CELLS];
        int lane = BYTES;
        /** How many cells there are; NONE, if the sheet has nothing. */
        int size = NONE;

        void renew(int newLane, int newSize) {
            lane = newLane;
            size = newSize;
            Arrays.fill(cells, 0);
        }

        void setCell(int i, int v) {
            if (lane == BYTES) {
                cells[i] = (byte) v;
            } else if (lane == SHORTS) {
                cells[i] = (short) v;
            } else {
                cells[i] = v;
            }
        }

        /** What the machine would find, if a cell were used in a row of that lane. */
        int faultAt(int takenAs, int i) {
            if (size == NONE) {
                return NULL_FAULT;
            }
            if (lane != takenAs) {
                return CAST_FAULT;
            }
            return isWithin(i, 0, size - 1) ? NO_FAULT : INDEX_FAULT;
        }
    }

    /** The tape and what it tells, held apart from all else until no fault is found. */
    private static final class Reader {
        private static final int TAPE_END = 0, NAME = 1, NUMBER = 2, SEMICOLON = 3, UNKNOWN = 4;

        private static final int NO_TOKEN = 1, MISPLACED = 2, OUT_OF_BOUNDS = 3, TWICE = 4;
        private static final int TOO_MANY = 5, NOT_THERE = 6, EATEN_AT_ONCE = 7;

        private static final int TOLD_ROOMS = 1, TOLD_PERIOD = 2, TOLD_IN = 4;
        private static final int TOLD_BEAST = 8, TOLD_STRING = 16;

        final Plan plan = new Plan();
        final State state = new State(plan);
        int length = 0;
        int fault = NO_FAULT;
        int faultPlace;
        int lines;

        private final byte[] tape = new byte[MAX_TAPE];
        /** Where the next token is looked for. */
        private int place;
        private int kind;
        private int start;
        /** Of a number; of no meaning with other tokens. */
        private int value;
        /** What stands in a text once at most and has stood there, as bits. */
        private int told;

        boolean append(long bytes) {
            if (length + 8 > MAX_TAPE) {
                return false;
            }
            for (int shift = 56; shift >= 0; shift -= 8) {
                tape[length] = (byte) (bytes >>> shift);
                length++;
            }
            return true;
        }

        void readTape() {
            plan.reset();
            state.reset();
            fault = NO_FAULT;
            place = 0;
            told = 0;
            lines = 0;
            nextToken();
            while (fault == NO_FAULT && kind != TAPE_END && lines < MAX_TAPE) {
                readLine();
                nextToken();
                lines++;
            }
            checkWhole();
            length = 0;
        }

        /** The first fault stays; behind it no token is read any more. */
        private void fail(int found, int where) {
            if (fault == NO_FAULT) {
                fault = found;
                faultPlace = where;
            }
        }

        private void nextToken() {
            if (fault != NO_FAULT) {
                return;
            }
            while (place < length && tape[place] == ' ') {
                place++;
            }
            start = place;
            kind = place < length ? kindOf(tape[place]) : TAPE_END;
            value = 0;
            // names and numbers are as long as may be, all else is one byte
            int most = kind == NAME || kind == NUMBER ? length : Math.min(start + 1, length);
            while (place < most && kindOf(tape[place]) == kind) {
                value = value * 10 + tape[place] - '0';
                place++;
            }
            if (kind == UNKNOWN || (kind == NUMBER && place - start > 2)) {
                fail(NO_TOKEN, start);
            }
        }

        private static int kindOf(byte b) {
            if (b >= 'a' && b <= 'z') {
                return NAME;
            }
            if (b >= '0' && b <= '9') {
                return NUMBER;
            }
            return b == ';' ? SEMICOLON : UNKNOWN;
        }

        private boolean isWord(String word) {
            if (fault != NO_FAULT || kind != NAME || place - start != word.length()) {
                return false;
            }
            for (int i = 0; i < word.length(); i++) {
                if (tape[start + i] != word.charAt(i)) {
                    return false;
                }
            }
            return true;
        }

        private void readLine() {
            boolean mayBeBarred = false;
            if (isWord("rooms")) {
                tellOnce(TOLD_ROOMS);
                plan.rooms = nextWithin(2, MAX_ROOMS);
            } else if (isWord("door")) {
                readDoor();
                mayBeBarred = true;
            } else if (isWord("period")) {
                tellOnce(TOLD_PERIOD);
                state.period = nextWithin(1, MAX_PERIOD);
            } else if (isWord("swap")) {
                readRule(SWAP_LAWS);
            } else if (isWord("turn")) {
                readRule(TURN_LAWS);
            } else if (isWord("bar")) {
                readRule(BAR_LAWS);
            } else if (isWord("in")) {
                tellOnce(TOLD_IN);
                state.his = nextWithin(0, MAX_ROOMS - 1);
            } else if (isWord("beast")) {
                readBeast();
            } else if (isWord("string")) {
                tellOnce(TOLD_STRING);
                plan.stringLength = nextWithin(0, MAX_STRING);
            } else {
                fail(MISPLACED, start);
            }
            closeLine(mayBeBarred);
        }

        private void tellOnce(int what) {
            if ((told & what) != 0) {
                fail(TWICE, start);
            }
            told |= what;
        }

        /** The next token, which has to be a number within bounds. */
        private int nextWithin(int least, int most) {
            nextToken();
            if (fault == NO_FAULT && kind != NUMBER) {
                fail(MISPLACED, start);
            }
            if (fault == NO_FAULT && !isWithin(value, least, most)) {
                fail(OUT_OF_BOUNDS, start);
            }
            return fault == NO_FAULT ? value : least;
        }

        private void readDoor() {
            int d = plan.doorCount;
            if (d >= MAX_DOORS) {
                fail(TOO_MANY, start);
                return;
            }
            plan.firstEnds[d] = nextWithin(0, MAX_ROOMS - 1);
            state.secondEnds[d] = nextWithin(0, MAX_ROOMS - 1);
            plan.doorCount++;
        }

        private void readRule(int laws) {
            if (plan.ruleCount >= MAX_RULES) {
                fail(TOO_MANY, start);
                return;
            }
            int d = nextWithin(0, MAX_DOORS - 1);
            int law = laws + (laws == BAR_LAWS ? d : 10 * d);
            if (laws == TURN_LAWS) {
                law += nextWithin(1, MAX_TURN);
            } else if (laws == SWAP_LAWS) {
                int other = nextWithin(0, MAX_DOORS - 1);
                if (other == d) {
                    fail(TWICE, start);
                }
                law += other;
            }
            plan.rules[plan.ruleCount] = law;
            plan.ruleCount++;
        }

        private void readBeast() {
            tellOnce(TOLD_BEAST);
            state.beast = nextWithin(0, MAX_ROOMS - 1);
            nextToken();
            if (isWord("sleeps")) {
                state.habit = SLEEPS;
            } else if (isWord("left")) {
                state.habit = LEFT;
            } else if (isWord("hungry")) {
                state.habit = HUNGRY;
            } else if (isWord("turns")) {
                state.habit = TURNS;
            } else {
                fail(MISPLACED, start);
            }
        }

        private void closeLine(boolean mayBeBarred) {
            nextToken();
            if (mayBeBarred && isWord("barred")) {
                state.barred |= 1 << (plan.doorCount - 1);
                nextToken();
            }
            if (kind != SEMICOLON) {
                fail(MISPLACED, start);
            }
        }

        private void checkWhole() {
            for (int d = 0; d < plan.doorCount; d++) {
                if (!plan.hasRoom(plan.firstEnds[d]) || !plan.hasRoom(state.secondEnds[d])) {
                    fail(NOT_THERE, length);
                }
            }
            for (int k = 0; k < plan.ruleCount; k++) {
                if (!plan.hasDoorsOf(plan.rules[k])) {
                    fail(NOT_THERE, length);
                }
            }
            if (!plan.hasRoom(state.his) || (state.beast != NONE && !plan.hasRoom(state.beast))) {
                fail(NOT_THERE, length);
            }
            if (state.beast == state.his) {
                fail(EATEN_AT_ONCE, length);
            }
        }
    }
}
