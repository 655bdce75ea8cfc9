import java.nio.charset.StandardCharsets;
import java.util.ArrayList;
import java.util.List;
import java.util.Random;

/** Random runs of calls: every answer of the class is held against that of the oracle. */
public final class RandomRunsTest {
    private static final int RUNS = 600;
    private static final int CALLS = 200;
    private static final int[] WIDE = {Integer.MIN_VALUE, -4, -2, -1, 40, 41, 1000, Integer.MAX_VALUE};

    private final Random random;
    private final ThreadMoved x = new ThreadMoved();
    private final Oracle o = new Oracle();
    private final List<String> calls = new ArrayList<>();

    private RandomRunsTest(long seed) {
        random = new Random(seed);
    }

    public static void main(String[] args) {
        for (int run = 0; run < RUNS; run++) {
            new RandomRunsTest(run).run(run);
        }
        Check.finish();
    }

    private void run(int run) {
        for (int i = 0; i < CALLS; i++) {
            if (!step(run)) {
                return;
            }
        }
    }

    private boolean same(int run, String call, int got, int want) {
        calls.add(call + " = " + want);
        Check.due("run " + run + ": " + call, got, want);
        if (got != want) {
            calls.forEach(c -> System.out.println("  " + c));
        }
        return got == want;
    }

    /** Mostly between 0 and most, at times just outside, at times far off. */
    private int upTo(int most) {
        int roll = random.nextInt(40);
        if (roll == 0) {
            return WIDE[random.nextInt(WIDE.length)];
        }
        return roll < 3 ? random.nextInt(most + 3) - 1 : random.nextInt(most + 1);
    }

    private int room() {
        return upTo(Math.max(0, o.rule(0) - 1));
    }

    private int doorNumber() {
        return upTo(Math.max(0, o.rule(1) - 1));
    }

    /** A door that leads from his room, or 10, at times any. */
    private int way() {
        int open = o.doors(o.rule(6));
        if (open == 0 || random.nextInt(5) == 0) {
            return random.nextInt(8) == 0 ? doorNumber() : 10;
        }
        int d = random.nextInt(10);
        while ((open >> d & 1) == 0) {
            d = (d + 1) % 10;
        }
        return d;
    }

    private boolean step(int run) {
        int kind = calls.isEmpty() ? 0 : random.nextInt(100);
        if (kind < 2) {
            return textStep(run);
        }
        if (kind < 30) {
            int d = way();
            return same(run, "go(" + d + ")", x.go(d), o.go(d)) && state(run);
        }
        if (kind < 40) {
            return sheetStep(run);
        }
        if (kind < 60) {
            return changeStep(run);
        }
        return kind < 80 ? question(run) : longQuestion(run);
    }

    private boolean state(int run) {
        for (int i = 0; i <= 9; i++) {
            if (!same(run, "rule(" + i + ")", x.rule(i), o.rule(i))) {
                return false;
            }
        }
        for (int d = 0; d < o.rule(1); d++) {
            if (!same(run, "door(" + d + ", 1)", x.door(d, 1), o.door(d, 1))
                    || !same(run, "door(" + d + ", 2)", x.door(d, 2), o.door(d, 2))) {
                return false;
            }
        }
        return same(run, "leads(0)", x.leads(0), o.leads(0)) && same(run, "leads(1)", x.leads(1), o.leads(1));
    }

    private boolean textStep(int run) {
        byte[] bytes = randomText().getBytes(StandardCharsets.ISO_8859_1);
        for (int i = 0; i < bytes.length; i += 8) {
            long v = Check.eight(bytes, i);
            if (!same(run, "feed(" + v + ")", x.feed(v), o.feed(v))) {
                return false;
            }
        }
        int n = Math.min(bytes.length, o.count(4));
        return same(run, "end(" + n + ")", x.end(n), o.end(n))
                && same(run, "text() of " + new String(bytes, StandardCharsets.ISO_8859_1), x.text(), o.text())
                && same(run, "fault()", x.fault(), o.fault()) && state(run);
    }

    private String randomText() {
        int rooms = 2 + random.nextInt(6);
        int doors = random.nextInt(11);
        List<String> lines = new ArrayList<>();
        lines.add("rooms " + rooms + ";");
        for (int d = 0; d < doors; d++) {
            lines.add("door " + random.nextInt(rooms) + " " + random.nextInt(rooms)
                    + (random.nextInt(6) == 0 ? " barred;" : ";"));
        }
        for (int k = random.nextInt(7); k > 0 && doors > 1; k--) {
            int d = random.nextInt(doors);
            int e = (d + 1 + random.nextInt(doors - 1)) % doors;
            lines.add(List.of("swap " + d + " " + e, "turn " + d + " " + (1 + random.nextInt(6)), "bar " + d)
                    .get(random.nextInt(3)) + ";");
        }
        int his = random.nextInt(rooms);
        lines.add("in " + his + ";");
        if (random.nextInt(4) != 0) {
            lines.add("beast " + (his + 1 + random.nextInt(rooms - 1)) % rooms + " "
                    + List.of("sleeps", "left", "hungry", "turns").get(random.nextInt(4)) + ";");
        }
        lines.add("period " + (1 + random.nextInt(6)) + ";");
        lines.add("string " + random.nextInt(13) + ";");
        return spoilt(String.join("", lines));
    }

    private String spoilt(String text) {
        if (random.nextInt(3) != 0) {
            return text;
        }
        String[] bits = {"0", "7", "12", "123", ";", " ", "a", "A", "\u00e9", "\n", "door 0 1;", "bar 0;", "rooms 3;",
            "swap 1 1;", "barred", "in 6;", "beast 0 left;", "beast 0 hungry", "period 1;", "string 0;", ";;", "turn 0 7;"};
        String bit = bits[random.nextInt(bits.length)];
        int from = random.nextInt(text.length() + 1);
        int to = Math.min(text.length(), from + random.nextInt(3));
        return text.substring(0, from) + bit + text.substring(to);
    }

    private boolean changeStep(int run) {
        int a = random.nextInt(3) == 0 ? -4 : room();
        int b = upTo(3);
        int d = doorNumber();
        boolean is = random.nextBoolean();
        switch (random.nextInt(12)) {
            case 0: return same(run, "bar(" + d + ", " + is + ")", x.bar(d, is), o.bar(d, is));
            case 1: b = upTo(6); return same(run, "period(" + b + ")", x.period(b), o.period(b));
            case 2: return same(run, "put(" + a + ")", x.put(a), o.put(a)) && state(run);
            case 3: return same(run, "lurk(" + a + ", " + b + ")", x.lurk(a, b), o.lurk(a, b)) && state(run);
            case 4: b = upTo(12); return same(run, "bite(" + b + ")", x.bite(b), o.bite(b)) && state(run);
            case 5: a = upTo(1); return same(run, "keep(" + a + ")", x.keep(a), o.keep(a));
            case 6: a = upTo(1); return same(run, "back(" + a + ")", x.back(a), o.back(a)) && state(run);
            case 7: b = upTo(6); return same(run, "forget(" + b + ")", x.forget(b), o.forget(b));
            case 8: b = upTo(6); return same(run, "hush(" + b + ")", x.hush(b), o.hush(b));
            case 9: return sight(run);
            case 10: return noise(run);
            default: b = upTo(320); return same(run, "end(" + b + ")", x.end(b), o.end(b));
        }
    }

    /** Mostly what one law, which is at hand, would make true. */
    private boolean sight(int run) {
        int n = upTo(6);
        int d = doorNumber();
        int end = random.nextInt(4) == 0 ? room() : o.door(d, 1);
        return same(run, "see(" + n + ", " + d + ", " + end + ")", x.see(n, d, end), o.see(n, d, end));
    }

    private boolean noise(int run) {
        int n = upTo(12);
        int a = room();
        boolean is = random.nextInt(3) == 0;
        return same(run, "hear(" + n + ", " + a + ", " + is + ")", x.hear(n, a, is), o.hear(n, a, is));
    }

    private boolean question(int run) {
        int d = doorNumber();
        int n = upTo(60);
        int what = upTo(2);
        switch (random.nextInt(8)) {
            case 0: return same(run, "dusk(" + n + ", " + d + ", " + what + ")", x.dusk(n, d, what), o.dusk(n, d, what));
            case 1: return same(run, "again()", x.again(), o.again());
            case 2: n = upTo(12); return same(run, "thread(" + n + ")", x.thread(n), o.thread(n));
            case 3: n = upTo(7); return same(run, "count(" + n + ")", x.count(n), o.count(n));
            case 4: n = upTo(6); return same(run, "law(" + n + ")", x.law(n), o.law(n));
            case 5: n = room(); return same(run, "doors(" + n + ")", x.doors(n), o.doors(n));
            case 6: return same(run, "door(" + d + ", " + what + ")", x.door(d, what), o.door(d, what));
            default: return same(run, "rule(" + n + ")", x.rule(n), o.rule(n));
        }
    }

    private boolean longQuestion(int run) {
        int a = room();
        int n = upTo(24);
        int what = random.nextBoolean() ? 0 : 10 + upTo(23);
        switch (random.nextInt(7)) {
            case 0: return same(run, "soonest(" + a + ", " + what + ")", x.soonest(a, what), o.soonest(a, what));
            case 1: return same(run, "alive(" + n + ")", x.alive(n), o.alive(n));
            case 2: what = upTo(2); return same(run, "laws(" + what + ")", x.laws(what), o.laws(what));
            case 3: return sureStep(run);
            case 4: n = upTo(3); return same(run, "lair(" + n + ")", x.lair(n), o.lair(n));
            case 5: what = upTo(1); return same(run, "wall(" + what + ")", x.wall(what), o.wall(what));
            default: return walkStep(run);
        }
    }

    private boolean sureStep(int run) {
        int n = upTo(6);
        int d = doorNumber();
        return same(run, "sure(" + n + ", " + d + ")", x.sure(n, d), o.sure(n, d));
    }

    private boolean walkStep(int run) {
        int seed = random.nextInt();
        int n = upTo(60);
        int what = upTo(1);
        String call = "walk(" + seed + ", " + n + ", " + what + ")";
        return same(run, call, x.walk(seed, n, what), o.walk(seed, n, what));
    }

    private boolean sheetStep(int run) {
        int k = random.nextInt(2) == 0 ? 0 : upTo(3);
        int lane = random.nextInt(3) == 0 ? upTo(2) : k % 3;
        int n = upTo(20);
        int f = upTo(5);
        switch (random.nextInt(8)) {
            case 0: return same(run, "sheet(" + k + ", " + lane + ", " + n + ")", x.sheet(k, lane, n), o.sheet(k, lane, n));
            case 1: case 2: case 3: return row(run, k);
            default:
                n = random.nextInt(3) == 0 ? n : random.nextInt(4);
                String call = "read(" + k + ", " + lane + ", " + f + ", " + n + ")";
                return same(run, call, x.read(k, lane, f, n), o.read(k, lane, f, n))
                        && same(run, "torn()", x.torn(), o.torn()) && state(run);
        }
    }

    private boolean row(int run, int k) {
        for (int i = 0; i < 6; i++) {
            int v = random.nextInt(3) == 0 ? 10 : way();
            v = random.nextInt(20) == 0 ? v + (256 << 8 * random.nextInt(3)) : v;
            if (!same(run, "lay(" + k + ", " + i + ", " + v + ")", x.lay(k, i, v), o.lay(k, i, v))) {
                return false;
            }
        }
        return true;
    }
}
