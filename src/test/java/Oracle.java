import java.util.ArrayList;
import java.util.Arrays;
import java.util.List;
import java.util.Map;
import java.util.TreeMap;
import java.util.TreeSet;
import java.util.regex.Matcher;
import java.util.regex.Pattern;

/**
 * The document once more, written apart from the class and as naively as may be, with the Java library and the
 * machine's own exceptions: random runs are held against it.
 */
final class Oracle {
    static final int BAD = -1, STATE = -2, FULL = -3, NONE = -4;

    private StringBuilder tape = new StringBuilder();
    private int fault = 0;
    private int torn = 0;

    private int rooms = 2;
    private int period = 1;
    private int stringLength = 12;
    private int step = 0;
    private int his = 0;
    private int beast = NONE;
    private int habit = 0;
    private boolean eaten = false;
    private List<int[]> doors = new ArrayList<>();
    private List<int[]> rules = new ArrayList<>();
    private List<Integer> string = new ArrayList<>();

    private List<int[]> seen = new ArrayList<>();
    private List<int[]> heard = new ArrayList<>();
    private final Oracle[] images = new Oracle[2];
    private final Object[] sheets = new Object[4];

    private Oracle copy() {
        Oracle o = new Oracle();
        o.rooms = rooms;
        o.rules = rules;
        o.stringLength = stringLength;
        o.restore(this);
        return o;
    }

    private void restore(Oracle o) {
        period = o.period;
        step = o.step;
        his = o.his;
        beast = o.beast;
        habit = o.habit;
        eaten = o.eaten;
        string = new ArrayList<>(o.string);
        doors = new ArrayList<>();
        for (int[] d : o.doors) {
            doors.add(d.clone());
        }
    }

    // ---- the text

    int feed(long v) {
        if (tape.length() > 312) {
            return FULL;
        }
        for (int i = 7; i >= 0; i--) {
            tape.append((char) (v >>> (8 * i) & 255));
        }
        return tape.length();
    }

    int end(int n) {
        if (n < 0 || n > tape.length()) {
            return BAD;
        }
        int had = tape.length();
        tape.setLength(n);
        return had;
    }

    private static final class Fault extends Exception {
        private static final long serialVersionUID = 1;
        final int kind;
        final int place;

        Fault(int kind, int place) {
            super(null, null, false, false);
            this.kind = kind;
            this.place = place;
        }
    }

    private static final Pattern TOKEN = Pattern.compile(" *([a-z]+|[0-9]+|;|\\z|.)", Pattern.DOTALL);

    private Matcher tokens;
    private String token;
    private int at;

    private void next() throws Fault {
        if (!tokens.find()) {
            token = "";
            at = tape.length();
            return;
        }
        token = tokens.group(1);
        at = tokens.start(1);
        if (!token.matches("[a-z]+|[0-9]{1,2}|;|")) {
            throw new Fault(1, at);
        }
    }

    private int number(int least, int most) throws Fault {
        next();
        if (!token.matches("[0-9]+")) {
            throw new Fault(2, at);
        }
        int v = Integer.parseInt(token);
        if (v < least || v > most) {
            throw new Fault(3, at);
        }
        return v;
    }

    private void once(TreeSet<String> told) throws Fault {
        if (!told.add(token)) {
            throw new Fault(4, at);
        }
    }

    private int lines(Oracle o) throws Fault {
        TreeSet<String> told = new TreeSet<>();
        int lines = 0;
        for (next(); !token.isEmpty(); next()) {
            String name = token;
            if (List.of("rooms", "period", "in", "beast", "string").contains(name)) {
                once(told);
            }
            if (name.equals("door") && o.doors.size() == 10) {
                throw new Fault(5, at);
            }
            if (List.of("swap", "turn", "bar").contains(name) && o.rules.size() == 6) {
                throw new Fault(5, at);
            }
            line(o, name);
            next();
            if (name.equals("door") && token.equals("barred")) {
                o.doors.get(o.doors.size() - 1)[2] = 1;
                next();
            }
            if (!token.equals(";")) {
                throw new Fault(2, at);
            }
            lines++;
        }
        return lines;
    }

    private void line(Oracle o, String name) throws Fault {
        switch (name) {
            case "rooms" -> o.rooms = number(2, 7);
            case "door" -> o.doors.add(new int[] {number(0, 6), number(0, 6), 0});
            case "period" -> o.period = number(1, 6);
            case "swap" -> {
                int d = number(0, 9);
                int e = number(0, 9);
                if (d == e) {
                    throw new Fault(4, at);
                }
                o.rules.add(new int[] {0, d, e});
            }
            case "turn" -> o.rules.add(new int[] {1, number(0, 9), number(1, 6)});
            case "bar" -> o.rules.add(new int[] {2, number(0, 9)});
            case "in" -> o.his = number(0, 6);
            case "beast" -> {
                o.beast = number(0, 6);
                next();
                o.habit = List.of("sleeps", "left", "hungry", "turns").indexOf(token);
                if (o.habit < 0) {
                    throw new Fault(2, at);
                }
            }
            case "string" -> o.stringLength = number(0, 12);
            default -> throw new Fault(2, at);
        }
    }

    private void whole(Oracle o) throws Fault {
        boolean is = o.his < o.rooms && o.beast < o.rooms;
        for (int[] d : o.doors) {
            is &= d[0] < o.rooms && d[1] < o.rooms;
        }
        for (int[] r : o.rules) {
            is &= r[1] < o.doors.size() && (r[0] != 0 || r[2] < o.doors.size());
        }
        if (!is) {
            throw new Fault(6, tape.length());
        }
        if (o.beast == o.his) {
            throw new Fault(7, tape.length());
        }
    }

    int text() {
        Oracle o = new Oracle();
        tokens = TOKEN.matcher(tape);
        fault = 0;
        try {
            int lines = lines(o);
            whole(o);
            rooms = o.rooms;
            rules = o.rules;
            stringLength = o.stringLength;
            restore(o);
            seen.clear();
            heard.clear();
            Arrays.fill(images, null);
            return lines;
        } catch (Fault f) {
            fault = f.kind;
            return -10 - f.place;
        } finally {
            tape.setLength(0);
        }
    }

    int fault() {
        return fault;
    }

    int rule(int what) {
        int[] all = {rooms, doors.size(), period, rules.size(), stringLength, step, his, beast, habit, eaten ? 1 : 0};
        return what < 0 || what > 9 ? BAD : all[what];
    }

    private boolean noDoor(int d) {
        return d < 0 || d >= doors.size();
    }

    private boolean noRoom(int x) {
        return x < 0 || x >= rooms;
    }

    int door(int d, int what) {
        return noDoor(d) || what < 0 || what > 2 ? BAD : doors.get(d)[what];
    }

    int law(int k) {
        if (k < 0 || k >= rules.size()) {
            return BAD;
        }
        int[] r = rules.get(k);
        return r[0] == 2 ? 200 + r[1] : 100 * r[0] + 10 * r[1] + r[2];
    }

    private List<Integer> leading(int room) {
        List<Integer> all = new ArrayList<>();
        for (int d = 0; d < doors.size(); d++) {
            int[] o = doors.get(d);
            if (o[2] == 0 && (o[0] == room || o[1] == room)) {
                all.add(d);
            }
        }
        return all;
    }

    private int other(int d, int room) {
        return doors.get(d)[0] == room ? doors.get(d)[1] : doors.get(d)[0];
    }

    private static int bits(Iterable<Integer> all) {
        int set = 0;
        for (int v : all) {
            set |= 1 << v;
        }
        return set;
    }

    int doors(int x) {
        return noRoom(x) ? BAD : bits(leading(x));
    }

    // ---- what is changed

    int bar(int d, boolean is) {
        if (noDoor(d)) {
            return BAD;
        }
        int was = doors.get(d)[2];
        doors.get(d)[2] = is ? 1 : 0;
        return was;
    }

    int period(int v) {
        if (v < 1 || v > 6) {
            return BAD;
        }
        int was = period;
        period = v;
        return was;
    }

    int put(int x) {
        if (noRoom(x)) {
            return BAD;
        }
        if (x == beast) {
            return STATE;
        }
        int was = his;
        his = x;
        eaten = false;
        return was;
    }

    int lurk(int x, int kind) {
        if (x != NONE && noRoom(x) || kind < 0 || kind > 3) {
            return BAD;
        }
        if (x == his) {
            return STATE;
        }
        int was = beast;
        beast = x;
        habit = kind;
        return was;
    }

    private static <T> int cut(List<T> row, int n) {
        if (n < 0 || n > row.size()) {
            return BAD;
        }
        int had = row.size();
        row.subList(n, had).clear();
        return had;
    }

    int bite(int n) {
        return cut(string, n);
    }

    // ---- steps

    private static void apply(List<int[]> doors, int[] rule, int rooms) {
        int[] d = doors.get(rule[1]);
        if (rule[0] == 0) {
            int[] e = doors.get(rule[2]);
            int end = d[1];
            d[1] = e[1];
            e[1] = end;
        } else if (rule[0] == 1) {
            d[1] = (d[1] + rule[2]) % rooms;
        } else {
            d[2] = 1 - d[2];
        }
    }

    private void night() {
        for (int[] r : rules) {
            apply(doors, r, rooms);
        }
    }

    private void time() {
        step++;
        if (step % period == 0) {
            night();
        }
    }

    private int beastFrom(int room, int kind) {
        List<Integer> ways = leading(room);
        if (ways.isEmpty() || kind == 0) {
            return room;
        }
        if (kind == 1) {
            return other(ways.get(0), room);
        }
        if (kind == 3) {
            return other(ways.get(step % ways.size()), room);
        }
        for (int d : ways) {
            if (other(d, room) == his) {
                return his;
            }
        }
        return room;
    }

    int go(int d) {
        if (d != 10 && noDoor(d)) {
            return BAD;
        }
        if (eaten || d != 10 && !leading(his).contains(d)) {
            return STATE;
        }
        if (step == 999) {
            return FULL;
        }
        stride(d);
        return eaten ? 10 + his : his;
    }

    private void stride(int d) {
        if (d != 10) {
            his = other(d, his);
            if (string.size() < stringLength) {
                string.add(d);
            }
        }
        if (beast == his) {
            eaten = true;
        } else if (beast != NONE) {
            beast = beastFrom(beast, habit);
            eaten = beast == his;
        }
        time();
    }

    int dusk(int n, int d, int what) {
        if (n < 0 || n > 60) {
            return BAD;
        }
        Oracle o = copy();
        for (int i = 0; i < n; i++) {
            o.night();
        }
        return o.door(d, what);
    }

    int again() {
        Oracle o = copy();
        for (int n = 1; n <= 60; n++) {
            o.night();
            if (Arrays.deepEquals(o.doors.toArray(), doors.toArray())) {
                return n;
            }
        }
        return NONE;
    }

    // ---- string

    int thread(int i) {
        return i < 0 ? BAD : i < string.size() ? string.get(i) : NONE;
    }

    int leads(int what) {
        if (what != 0 && what != 1) {
            return BAD;
        }
        int room = his;
        int i = string.size();
        while (i > 0 && leading(room).contains(string.get(i - 1))) {
            i--;
            room = other(string.get(i), room);
        }
        return what == 0 ? room : i > 0 ? i - 1 : NONE;
    }

    // ---- soonest, alive

    private static String sortable(String row, int d) {
        return row + (char) ('a' + d);
    }

    /** Where he and the beast can be behind n steps, each with its first row of steps. */
    private Map<Integer, String> layer(int n) {
        Map<Integer, String> rows = new TreeMap<>();
        Map<Integer, Oracle> ends = new TreeMap<>();
        rows.put(0, "");
        ends.put(0, this);
        for (int i = 0; i < n; i++) {
            Map<Integer, String> nextRows = new TreeMap<>();
            Map<Integer, Oracle> nextEnds = new TreeMap<>();
            for (int key : rows.keySet()) {
                Oracle from = ends.get(key);
                List<Integer> ways = new ArrayList<>(from.leading(from.his));
                ways.add(10);
                for (int d : ways) {
                    Oracle o = from.copy();
                    o.stride(d);
                    int to = o.his * 100 + o.beast + 4;
                    String row = sortable(rows.get(key), d);
                    if (!o.eaten && (!nextRows.containsKey(to) || nextRows.get(to).compareTo(row) > 0)) {
                        nextRows.put(to, row);
                        nextEnds.put(to, o);
                    }
                }
            }
            rows = nextRows;
            ends = nextEnds;
        }
        Map<Integer, String> byRoom = new TreeMap<>();
        for (int key : rows.keySet()) {
            byRoom.merge(ends.get(key).his, rows.get(key), (a, b) -> a.compareTo(b) < 0 ? a : b);
        }
        return byRoom;
    }

    int soonest(int x, int what) {
        if (noRoom(x) || what != 0 && (what < 10 || what > 33)) {
            return BAD;
        }
        if (eaten) {
            return STATE;
        }
        for (int n = 0; n <= 24; n++) {
            String row = layer(n).get(x);
            if (row != null) {
                return what == 0 ? n : what - 10 < n ? row.charAt(what - 10) - 'a' : NONE;
            }
        }
        return NONE;
    }

    int alive(int n) {
        if (n < 0 || n > 24) {
            return BAD;
        }
        return eaten ? STATE : bits(layer(n).keySet());
    }

    // ---- laws that fit

    int see(int n, int d, int x) {
        if (n < 1 || n > 6 || noDoor(d) || noRoom(x)) {
            return BAD;
        }
        if (seen.size() == 6) {
            return FULL;
        }
        seen.add(new int[] {n, d, x});
        return seen.size();
    }

    int forget(int n) {
        return cut(seen, n);
    }

    private int endBy(int[] law, int n, int d) {
        Oracle o = copy();
        for (int i = 0; i < n; i++) {
            apply(o.doors, law, rooms);
        }
        return o.doors.get(d)[1];
    }

    private Map<Integer, int[]> fitting() {
        Map<Integer, int[]> all = new TreeMap<>();
        for (int d = 0; d < doors.size(); d++) {
            for (int e = d + 1; e < doors.size(); e++) {
                all.put(10 * d + e, new int[] {0, d, e});
            }
            for (int n = 1; n < rooms; n++) {
                all.put(100 + 10 * d + n, new int[] {1, d, n});
            }
            all.put(200 + d, new int[] {2, d});
        }
        for (int[] s : seen) {
            all.values().removeIf(law -> endBy(law, s[0], s[1]) != s[2]);
        }
        return all;
    }

    int laws(int what) {
        if (what < 0 || what > 2) {
            return BAD;
        }
        TreeMap<Integer, int[]> all = new TreeMap<>(fitting());
        if (what == 0) {
            return all.size();
        }
        return all.isEmpty() ? NONE : what == 1 ? all.firstKey() : all.lastKey();
    }

    int sure(int n, int d) {
        if (n < 1 || n > 6 || noDoor(d)) {
            return BAD;
        }
        TreeSet<Integer> ends = new TreeSet<>();
        for (int[] law : fitting().values()) {
            ends.add(endBy(law, n, d));
        }
        return ends.size() == 1 ? ends.first() : NONE;
    }

    // ---- the beast

    int hear(int n, int x, boolean is) {
        if (n < 1 || n > 12 || noRoom(x)) {
            return BAD;
        }
        if (heard.size() == 6) {
            return FULL;
        }
        heard.add(new int[] {n, x, is ? 1 : 0});
        return heard.size();
    }

    int hush(int n) {
        return cut(heard, n);
    }

    private int beastBehind(int n, int room, int kind) {
        Oracle o = copy();
        int at = room;
        for (int i = 0; i < n; i++) {
            at = o.beastFrom(at, kind);
            o.time();
        }
        return at;
    }

    int lair(int kind) {
        if (kind < 0 || kind > 3) {
            return BAD;
        }
        int set = 0;
        for (int x = 0; x < rooms; x++) {
            boolean is = x != his;
            for (int[] h : heard) {
                is &= (beastBehind(h[0], x, kind) == h[1]) == (h[2] == 1);
            }
            set |= is ? 1 << x : 0;
        }
        return set;
    }

    private boolean comesOut(int walled) {
        Oracle o = copy();
        TreeSet<Integer> at = new TreeSet<>(List.of(beast));
        for (int i = 0; i < 24; i++) {
            for (int room : new ArrayList<>(at)) {
                for (int d : o.leading(room)) {
                    if ((walled >> d & 1) == 0) {
                        at.add(o.other(d, room));
                    }
                }
            }
            o.time();
        }
        return at.contains(0);
    }

    int wall(int what) {
        if (what != 0 && what != 1) {
            return BAD;
        }
        if (beast == NONE) {
            return STATE;
        }
        int best = NONE;
        for (int set = 0; set < 1 << doors.size(); set++) {
            int size = Integer.bitCount(set);
            if (size <= 3 && (best == NONE || size < Integer.bitCount(best)) && !comesOut(set)) {
                best = set;
            }
        }
        return best == NONE || what == 1 ? best : Integer.bitCount(best);
    }

    // ---- walks, images, sheets

    int walk(int seed, int n, int what) {
        if (n < 1 || n > 60 || what < 0 || what > 1) {
            return BAD;
        }
        if (eaten) {
            return STATE;
        }
        Oracle o = copy();
        long s = seed;
        int safe = 0;
        while (safe < n) {
            s = (s * 1103515245L + 12345L) & 0xffffffffL;
            List<Integer> ways = new ArrayList<>(o.leading(o.his));
            ways.add(10);
            o.stride(ways.get((int) ((s >> 16 & 0x7fff) % ways.size())));
            if (o.eaten) {
                break;
            }
            safe++;
        }
        return what == 0 ? safe : o.his;
    }

    int keep(int k) {
        if (k < 0 || k > 1) {
            return BAD;
        }
        int was = images[k] == null ? 0 : 1;
        images[k] = copy();
        return was;
    }

    int back(int k) {
        if (k < 0 || k > 1) {
            return BAD;
        }
        if (images[k] == null) {
            return STATE;
        }
        restore(images[k]);
        return step;
    }

    int sheet(int k, int lane, int n) {
        if (k < 0 || k > 3 || lane < 0 || lane > 2 || n > 40) {
            return BAD;
        }
        try {
            sheets[k] = lane == 0 ? new byte[n] : lane == 1 ? new short[n] : (Object) new int[n];
            return 1;
        } catch (NegativeArraySizeException e) {
            return -14;
        }
    }

    int lay(int k, int i, int v) {
        if (k < 0 || k > 3) {
            return BAD;
        }
        try {
            if (sheets[k] instanceof byte[] row) {
                row[i] = (byte) v;
            } else if (sheets[k] instanceof short[] row) {
                row[i] = (short) v;
            } else {
                ((int[]) sheets[k])[i] = v;
            }
            return 1;
        } catch (NullPointerException e) {
            return -11;
        } catch (ArrayIndexOutOfBoundsException e) {
            return -12;
        }
    }

    private static int cell(Object row, int lane, int i) {
        return lane == 0 ? ((byte[]) row)[i] : lane == 1 ? ((short[]) row)[i] : ((int[]) row)[i];
    }

    int read(int k, int lane, int f, int n) {
        if (k < 0 || k > 3 || lane < 0 || lane > 2 || n < 0 || n > 20) {
            return BAD;
        }
        Oracle was = copy();
        int found = 0;
        int i = 0;
        try {
            for (; i < n; i++) {
                if (go(cell(sheets[k], lane, f + i)) < 0) {
                    restore(was);
                    return -20 - i;
                }
            }
        } catch (NullPointerException e) {
            found = 1;
        } catch (ArrayIndexOutOfBoundsException e) {
            found = 2;
        } catch (ClassCastException e) {
            found = 3;
        }
        torn = found;
        return i;
    }

    int torn() {
        return torn;
    }

    int count(int what) {
        switch (what) {
            case 0: return string.size();
            case 1: return seen.size();
            case 2: return heard.size();
            case 3: return (images[0] == null ? 0 : 1) + (images[1] == null ? 0 : 1);
            case 4: return tape.length();
            case 5: return sheets[0] == null ? NONE : java.lang.reflect.Array.getLength(sheets[0]);
            case 6: return (int) doors.stream().filter(d -> d[2] == 1).count();
            default: return BAD;
        }
    }
}
