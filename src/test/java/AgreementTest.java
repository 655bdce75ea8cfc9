import java.util.ArrayList;
import java.util.List;
import java.util.Random;
import java.util.TreeMap;
import java.util.TreeSet;

/** Calls have to agree with one another: what one foretells comes so, if it is done by others. No oracle is asked. */
public final class AgreementTest {
    private static final int HOUSES = 150;
    private static final String[] ALL_KINDS = {"swap", "turn", "bar"};

    public static void main(String[] args) {
        for (int seed = 0; seed < HOUSES; seed++) {
            Random random = new Random(seed);
            RandomHouse house = new RandomHouse(random, 7, 10, ALL_KINDS);
            Check.about("house " + seed + ", " + house.text());
            dusksCome(house);
            foretoldRowsAreGone(house);
            walksAreGone(house, random);
            stringIsFollowed(house, random);
            beastIsHeard(house, random);
            readsAreSteps(house, random);
            imagesComeBack(house, random);
            blanksAndOrder(house, random);
            wallsHold(new RandomHouse(random, 5, 6, ALL_KINDS));
            lawsAreTold(new RandomHouse(random, 4, 4), random);
            firstRowsByTrial(new RandomHouse(random, 4, 4, ALL_KINDS));
        }
        Check.finish();
    }

    private static String doorsOf(ThreadMoved x) {
        StringBuilder all = new StringBuilder();
        for (int d = 0; d < x.rule(1); d++) {
            all.append(x.door(d, 0)).append(x.door(d, 1)).append(x.door(d, 2)).append(' ');
        }
        return all.toString();
    }

    private static String doorsBehind(ThreadMoved x, int dusks) {
        StringBuilder all = new StringBuilder();
        for (int d = 0; d < x.rule(1); d++) {
            all.append(x.dusk(dusks, d, 0)).append(x.dusk(dusks, d, 1)).append(x.dusk(dusks, d, 2)).append(' ');
        }
        return all.toString();
    }

    private static String allOf(ThreadMoved x) {
        StringBuilder all = new StringBuilder(doorsOf(x));
        for (int i = 0; i <= 9; i++) {
            all.append(x.rule(i)).append(' ');
        }
        for (int i = 0; i < x.count(0); i++) {
            all.append(x.thread(i)).append(' ');
        }
        return all.toString();
    }

    /** dusk(), again(): he waits for them. */
    private static void dusksCome(RandomHouse house) {
        ThreadMoved asked = house.withoutBeast();
        ThreadMoved gone = house.withoutBeast();
        int again = asked.again();
        int first = -4;
        for (int n = 0; n <= 60; n++) {
            String doors = doorsOf(gone);
            if (n < 4 || n > 57) {
                Check.dueTrue("doors behind " + n + " dusks", doors.equals(doorsBehind(asked, n)));
            }
            if (n > 0 && first == -4 && doors.equals(doorsOf(asked))) {
                first = n;
            }
            for (int i = 0; i < house.period; i++) {
                gone.go(10);
            }
        }
        Check.due("again()", again, first);
    }

    /** soonest(), alive(): he goes so. */
    private static void foretoldRowsAreGone(RandomHouse house) {
        ThreadMoved asked = house.made();
        for (int room = 0; room < house.rooms; room++) {
            int n = asked.soonest(room, 0);
            for (int m = 0; m <= 24; m++) {
                boolean is = (asked.alive(m) >> room & 1) == 1;
                Check.dueTrue("room " + room + " behind " + m + " steps", m < n || n == -4 ? !is : m > n || is);
            }
            ThreadMoved gone = house.made();
            for (int i = 0; i < n; i++) {
                Check.dueTrue("not eaten on the way to " + room, gone.go(asked.soonest(room, 10 + i)) < 10);
            }
            if (n != -4) {
                Check.due("his room behind the row", gone.rule(6), room);
            }
            if (n >= 0 && n < 24) {
                Check.due("no step more", asked.soonest(room, 10 + n), -4);
            }
        }
    }

    /** soonest(), alive(): all rows of up to four steps are tried, by order. */
    private static void firstRowsByTrial(RandomHouse house) {
        ThreadMoved asked = house.made();
        TreeMap<Integer, String> first = new TreeMap<>();
        List<String> rows = List.of("");
        for (int n = 0; n <= 4; n++) {
            List<String> longer = new ArrayList<>();
            int alive = 0;
            for (String row : rows) {
                ThreadMoved gone = house.made();
                row.chars().forEach(step -> gone.go(step - 'a'));
                if (gone.rule(9) == 0) {
                    alive |= 1 << gone.rule(6);
                    first.putIfAbsent(gone.rule(6), row);
                    for (int d = 0; d <= 10; d++) {
                        if (d == 10 || (gone.doors(gone.rule(6)) >> d & 1) == 1) {
                            longer.add(row + (char) ('a' + d));
                        }
                    }
                }
            }
            Check.due("alive(" + n + ") by trial, " + house.text(), asked.alive(n), alive);
            rows = longer;
        }
        for (int room : first.keySet()) {
            String row = first.get(room);
            Check.due("steps to " + room + " by trial, " + house.text(), asked.soonest(room, 0), row.length());
            for (int i = 0; i < row.length(); i++) {
                Check.due("step " + i + " to " + room, asked.soonest(room, 10 + i), row.charAt(i) - 'a');
            }
        }
    }

    /** walk(): he goes by the same seed. */
    private static void walksAreGone(RandomHouse house, Random random) {
        int seed = random.nextInt();
        ThreadMoved gone = house.made();
        ThreadMoved asked = house.made();
        long roll = seed;
        int safe = 0;
        for (int n = 1; n <= 60 && gone.rule(9) == 0; n++) {
            roll = roll * 1103515245L + 12345L;
            List<Integer> ways = new ArrayList<>();
            for (int d = 0; d < house.doors; d++) {
                if ((gone.doors(gone.rule(6)) >> d & 1) == 1) {
                    ways.add(d);
                }
            }
            ways.add(10);
            gone.go(ways.get((int) ((roll >> 16 & 0x7fff) % ways.size())));
            safe += 1 - gone.rule(9);
            Check.due("walk(" + seed + ", " + n + ", 0)", asked.walk(seed, n, 0), safe);
            Check.due("walk(" + seed + ", " + n + ", 1)", asked.walk(seed, n, 1), gone.rule(6));
        }
    }

    private static void wander(ThreadMoved x, Random random, int steps) {
        for (int i = 0; i < steps; i++) {
            x.go(random.nextInt(4) == 0 ? 10 : random.nextInt(10));
        }
    }

    /** thread(), leads(): he goes back along his string, and no dusk comes meanwhile. */
    private static void stringIsFollowed(RandomHouse house, Random random) {
        ThreadMoved x = house.withoutBeast();
        wander(x, random, 40);
        int room = x.leads(0);
        int broken = x.leads(1);
        int left = x.count(0);
        List<Integer> doors = new ArrayList<>();
        for (int i = 0; i < left; i++) {
            doors.add(x.thread(i));
        }
        x.keep(0);
        String night = doorsOf(x);
        while (left > 0 && x.go(doors.get(left - 1)) >= 0) {
            left--;
            // each step may end in a dusk: doors are laid as they were, where he is stays
            int at = x.rule(6);
            x.back(0);
            x.put(at);
            Check.dueTrue("doors are as they were", doorsOf(x).equals(night));
        }
        Check.due("where his string leads", room, x.rule(6));
        Check.due("where it is broken", broken, left == 0 ? -4 : left - 1);
    }

    /** hear(), lair(): a beast is set there, and he waits. */
    private static void beastIsHeard(RandomHouse house, Random random) {
        int habit = random.nextInt(4);
        int n = 1 + random.nextInt(12);
        int room = random.nextInt(house.rooms);
        boolean is = random.nextInt(3) != 0;
        ThreadMoved asked = house.made();
        asked.hear(n, room, is);
        int lairs = asked.lair(habit);
        for (int from = 0; from < house.rooms; from++) {
            ThreadMoved x = house.made();
            if (x.lurk(from, habit) == -2) {
                Check.due("not in his room", lairs >> from & 1, 0);
                continue;
            }
            for (int i = 0; i < n && x.rule(9) == 0; i++) {
                x.go(10);
            }
            if (x.rule(5) == n) {
                String what = "beast " + habit + " from " + from + ", heard " + n + " " + room + " " + is;
                Check.due(what, lairs >> from & 1, (x.rule(7) == room) == is ? 1 : 0);
            }
        }
    }

    /** read(): the same steps by go(). */
    private static void readsAreSteps(RandomHouse house, Random random) {
        ThreadMoved read = house.made();
        ThreadMoved gone = house.made();
        int lane = random.nextInt(3);
        int cells = random.nextInt(8);
        read.sheet(2, lane, cells);
        List<Integer> steps = new ArrayList<>();
        for (int i = 0; i < cells; i++) {
            steps.add(random.nextInt(3) == 0 ? random.nextInt(house.doors) : 10);
            read.lay(2, i, steps.get(i));
        }
        String before = allOf(read);
        int n = random.nextInt(10);
        int due = 0;
        while (due >= 0 && due < n && due < cells) {
            due = gone.go(steps.get(due)) < 0 ? -20 - due : due + 1;
        }
        Check.due("read", read.read(2, lane, 0, n), due);
        Check.dueTrue("what is behind a read", allOf(read).equals(due < 0 ? before : allOf(gone)));
        Check.due("torn()", read.torn(), due == n || due < 0 ? 0 : 2);
    }

    /** keep(), back(): all is as it was. */
    private static void imagesComeBack(RandomHouse house, Random random) {
        ThreadMoved x = house.made();
        wander(x, random, 5);
        String first = allOf(x);
        x.keep(0);
        wander(x, random, 5);
        x.period(5);
        x.bar(random.nextInt(house.doors), true);
        String second = allOf(x);
        x.keep(1);
        wander(x, random, 5);
        x.bite(0);
        x.lurk(-4, 3);
        x.put(random.nextInt(house.rooms));
        x.back(0);
        Check.dueTrue("image 0", allOf(x).equals(first));
        x.back(1);
        Check.dueTrue("image 1", allOf(x).equals(second));
    }

    /** text(): neither blanks nor the order of lines that are not of one kind matter. */
    private static void blanksAndOrder(RandomHouse house, Random random) {
        String due = allOf(house.made());
        String rules = String.join("", house.ruleLines);
        String doors = String.join("", house.doorLines);
        String single = "in " + house.his + ";period " + house.period + ";rooms " + house.rooms + ";";
        String turned = house.beastLine + rules + single + doors;
        Check.dueTrue("another order: " + turned, allOf(Check.told(turned)).equals(due));
        String tight = turned.replaceAll("(?<=[a-z]) (?=\\d)|(?<=\\d) (?=[a-z])", "");
        Check.dueTrue("few blanks: " + tight, allOf(Check.told(tight)).equals(due));
        String wide = turned.replace(" ", " ".repeat(1 + random.nextInt(2))).replace(";", " ;");
        if (wide.length() <= 320) {
            Check.dueTrue("more blanks: " + wide, allOf(Check.told(wide)).equals(due));
        }
    }

    private static boolean comesOut(ThreadMoved x, int walled) {
        TreeSet<Integer> at = new TreeSet<>(List.of(x.rule(7)));
        int dusks = 0;
        for (int step = x.rule(5); step < x.rule(5) + 24; step++) {
            TreeSet<Integer> next = new TreeSet<>(at);
            for (int d = 0; d < x.rule(1); d++) {
                boolean open = x.dusk(dusks, d, 2) == 0 && (walled >> d & 1) == 0;
                if (open && at.contains(x.dusk(dusks, d, 0))) {
                    next.add(x.dusk(dusks, d, 1));
                }
                if (open && at.contains(x.dusk(dusks, d, 1))) {
                    next.add(x.dusk(dusks, d, 0));
                }
            }
            at = next;
            dusks += (step + 1) % x.rule(2) == 0 ? 1 : 0;
        }
        return at.contains(0);
    }

    /** wall(): the beast is let go wherever dusk() says that doors lead. */
    private static void wallsHold(RandomHouse house) {
        ThreadMoved x = house.made();
        int best = -4;
        for (int set = 0; set < 1 << house.doors; set++) {
            boolean fewer = best == -4 || Integer.bitCount(set) < Integer.bitCount(best);
            if (Integer.bitCount(set) <= 3 && fewer && !comesOut(x, set)) {
                best = set;
            }
        }
        Check.due("wall(0), " + house.text(), x.wall(0), best == -4 ? -4 : Integer.bitCount(best));
        Check.due("wall(1), " + house.text(), x.wall(1), best);
    }

    /** laws(), sure(): each law is told in a text as its one rule. */
    private static void lawsAreTold(RandomHouse house, Random random) {
        ThreadMoved asked = house.withoutBeast();
        int[][] seen = new int[random.nextInt(3)][];
        for (int i = 0; i < seen.length; i++) {
            int d = random.nextInt(house.doors);
            int end = random.nextBoolean() ? asked.door(d, 1) : random.nextInt(house.rooms);
            seen[i] = new int[] {1 + random.nextInt(6), d, end};
            asked.see(seen[i][0], d, end);
        }
        TreeMap<Integer, ThreadMoved> fitting = new TreeMap<>();
        for (int d = 0; d < house.doors; d++) {
            for (int e = d + 1; e < house.doors; e++) {
                fitting.put(10 * d + e, Check.told(house.frame() + "swap " + d + " " + e + ";"));
            }
            for (int n = 1; n < house.rooms; n++) {
                fitting.put(100 + 10 * d + n, Check.told(house.frame() + "turn " + d + " " + n + ";"));
            }
            fitting.put(200 + d, Check.told(house.frame() + "bar " + d + ";"));
        }
        for (int[] s : seen) {
            fitting.values().removeIf(x -> x.dusk(s[0], s[1], 1) != s[2]);
        }
        Check.due("laws(0), " + house.text(), asked.laws(0), fitting.size());
        Check.due("laws(1), " + house.text(), asked.laws(1), fitting.isEmpty() ? -4 : fitting.firstKey());
        Check.due("laws(2), " + house.text(), asked.laws(2), fitting.isEmpty() ? -4 : fitting.lastKey());
        for (int d = 0; d < house.doors; d++) {
            for (int n = 1; n <= 6; n++) {
                TreeSet<Integer> ends = new TreeSet<>();
                for (ThreadMoved x : fitting.values()) {
                    ends.add(x.dusk(n, d, 1));
                }
                Check.due("sure(" + n + ", " + d + ")", asked.sure(n, d), ends.size() == 1 ? ends.first() : -4);
            }
        }
    }
}
