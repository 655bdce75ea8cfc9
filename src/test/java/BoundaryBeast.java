/** Promises 26 to 30: what was heard, where the beast may be, walls, walks. */
final class BoundaryBeast {
    private static final int BAD = -1, STATE = -2, FULL = -3, NONE = -4;
    private static final int LEAST = Integer.MIN_VALUE, MOST = Integer.MAX_VALUE;

    private BoundaryBeast() {
    }

    static void all() {
        hear();
        hearBad();
        hearFull();
        hush();
        hushBad();
        lair();
        lairBad();
        wallFewest();
        wallLeast();
        wallBad();
        wallState();
        wallNone();
        walkSeed();
        walkPlace();
        walkSafe();
        walkBad();
        walkState();
    }

    private static void hear() {
        Sentence.of(26, "HEARD: behind n STEPS THE BEAST is in a ROOM, or not: how many are.");
        ThreadMoved x = Check.told("rooms 7;");
        Check.due("behind 1, in 0", x.hear(1, 0, false), 1);
        Check.due("behind 12, in 6", x.hear(12, 6, true), 2);
        Check.due("count(2)", x.count(2), 2);
        Check.due("it sleeps in 6", x.lair(0), 64);
        Check.due("the same again", x.hear(12, 6, true), 3);
        Check.due("not so", x.hear(12, 6, false), 4);
        Check.due("nowhere", x.lair(0), 0);
    }

    private static void hearBad() {
        Sentence.of(26, "BAD;");
        Twins.allRefused(House::furnished, BAD, "hear(.., 0, true)", (x, n) -> x.hear(n, 0, true), LEAST, -1, 0, 13, MOST);
        Twins.allRefused(House::furnished, BAD, "hear(1, .., false)", (x, r) -> x.hear(1, r, false), LEAST, NONE, -1, 5, 7, MOST);
        Twins.allRefused(House::full, BAD, "hear(1, .., true), full", (x, r) -> x.hear(1, r, true), -1, 3);
    }

    private static void hearFull() {
        Sentence.of(26, "FULL.");
        Twins.refused(House::full, FULL, "hear(1, 0, true)", x -> x.hear(1, 0, true));
        Twins.refused(House::full, FULL, "hear(12, 2, false)", x -> x.hear(12, 2, false));
        ThreadMoved x = House.full();
        x.hush(5);
        Check.due("the sixth", x.hear(1, 2, true), 6);
        Check.due("a seventh", x.hear(1, 2, true), FULL);
        Check.due("count(2)", x.count(2), 6);
    }

    private static void hush() {
        Sentence.of(27, "HEARD are the first n alone: how many there were.");
        Check.due("none of none", new ThreadMoved().hush(0), 0);
        ThreadMoved x = House.full();
        Check.due("all six", x.hush(6), 6);
        Check.due("one", x.hush(1), 6);
        Check.due("count(2)", x.count(2), 1);
        Check.due("none", x.hush(0), 1);
        Check.due("count(2)", x.count(2), 0);
        x = Check.told("rooms 4;");
        x.hear(1, 1, false);
        x.hear(1, 2, false);
        x.hush(1);
        Check.due("the first stays", x.lair(0), 12);
    }

    private static void hushBad() {
        Sentence.of(27, "BAD.");
        Twins.allRefused(House::furnished, BAD, "hush", ThreadMoved::hush, LEAST, -1, 3, 6, MOST);
        Twins.allRefused(House::full, BAD, "hush", ThreadMoved::hush, -1, 7);
        Check.due("one of none", new ThreadMoved().hush(1), BAD);
    }

    private static void lair() {
        Sentence.of(28, "ROOMS in which THE BEAST, of a HABIT, may be now (bits).");
        ThreadMoved x = Check.told("rooms 7;door 1 2;door 2 3;in 6;beast 5 left;");
        for (int habit = 0; habit < 4; habit++) {
            Check.due("nothing is heard, habit " + habit, x.lair(habit), 63);
        }
        x.hear(1, 2, true);
        Check.due("sleeps", x.lair(0), 4);
        Check.due("left: from 1, from 3", x.lair(1), 10);
        Check.due("hungry: it stays", x.lair(2), 4);
        Check.due("turns", x.lair(3), 10);
        x.hear(2, 2, true);
        Check.due("nowhere", x.lair(1), 0);
        Check.due("where it is told to be does not matter", x.rule(7), 5);
        x.lurk(NONE, 0);
        Check.due("nor whether there is one", x.lair(0), 4);
    }

    private static void lairBad() {
        Sentence.of(28, "BAD.");
        Twins.allRefused(House::furnished, BAD, "lair", ThreadMoved::lair, LEAST, NONE, -1, 4, MOST);
    }

    private static void walls(String why, String text, int fewest, int set) {
        ThreadMoved x = Check.told(text);
        Check.due("wall(0), " + why, x.wall(0), fewest);
        Check.due("wall(1), " + why, x.wall(1), set);
    }

    private static void wallFewest() {
        Sentence.of(29, "The fewest DOORS (0 to 3) to be WALLED UP so that ROOM 0 is free from THE BEAST (what 0),");
        walls("no doors", "beast 1 left;", 0, 0);
        walls("all barred", "door 0 1 barred;beast 1 left;", 0, 0);
        walls("one", "door 0 1;beast 1 sleeps;", 1, 1);
        walls("two", "door 0 1;door 1 0;beast 1 sleeps;", 2, 3);
        walls("three", "door 0 1;door 1 0;door 0 1;beast 1 sleeps;", 3, 7);
        walls("four", "door 0 1;door 1 0;door 0 1;door 1 0;beast 1 sleeps;", NONE, NONE);
        walls("four, one barred", "door 0 1;door 1 0;door 0 1;door 1 0 barred;beast 1 sleeps;", 3, 7);
        walls("the last of ten", "rooms 7;" + "door 1 2;".repeat(9) + "door 2 0;in 6;beast 1 left;", 1, 512);
        walls("the last three of ten", "rooms 7;" + "door 1 2;".repeat(7) + "door 2 0;".repeat(3) + "in 6;beast 1 left;", 3, 896);
    }

    private static void wallLeast() {
        Sentence.of(29, "of such sets the least (1; bits).");
        walls("either of two", "rooms 3;door 0 1;door 1 2;beast 2 left;", 1, 1);
        walls("either of two, the other way", "rooms 3;door 1 2;door 0 1;beast 2 left;", 1, 1);
        // 42, 44, 49 and 50 are the sets: 49 has door 0, but is not the least
        walls("the least as a number", "rooms 5;door 0 1;door 1 2;door 2 3;door 3 4;door 4 0 barred;door 1 3;period 2;swap 1 3;"
                + "turn 5 2;bar 4;in 0;beast 3 turns;string 4;", 3, 42);
    }

    private static void wallBad() {
        Sentence.of(29, "BAD;");
        Twins.allRefused(House::furnished, BAD, "wall", ThreadMoved::wall, LEAST, -1, 2, MOST);
        Twins.allRefused(ThreadMoved::new, BAD, "wall, no beast", ThreadMoved::wall, -1, 2);
    }

    private static void wallState() {
        Sentence.of(29, "STATE: there is none;");
        Twins.allRefused(ThreadMoved::new, STATE, "wall", ThreadMoved::wall, 0, 1);
        ThreadMoved x = House.furnished();
        x.lurk(NONE, 1);
        Check.due("it is gone", x.wall(0), STATE);
        x.lurk(1, 1);
        Check.dueTrue("there is one again", x.wall(0) >= 0);
        Check.due("he is eaten, there is one", House.eaten().wall(0), 1);
    }

    private static void wallNone() {
        Sentence.of(29, "NONE: by none.");
        String four = "rooms 3;door 0 1;door 0 1;door 0 1;door 0 1;in 2;beast 1 sleeps;";
        Twins.allRefused(() -> Check.told(four), NONE, "wall", ThreadMoved::wall, 0, 1);
        Twins.allRefused(() -> Check.told("in 1;beast 0 sleeps;"), NONE, "wall, it is there", ThreadMoved::wall, 0, 1);
    }

    /** Where a seed takes him from room 0 with one door, in one step. */
    private static void walkSeed() {
        Sentence.of(30, "By itself, n STEPS (1 to 60) by a seed, till he is EATEN: the seed becomes seed times 1103515245 and 12345; bits "
                + "16 to 30 of it modulo DOORS that LEAD from HIS ROOM and 1:");
        ThreadMoved x = Check.told("rooms 4;door 0 1;door 0 2;door 0 3;");
        // from 42627 and 47902 the lowest 16 bits become all 0, all 1: there 1 less, 1 more is another place
        for (int seed : new int[] {0, 1, 2, 3, -1, 32767, 65536, 42627, 47902, MOST, LEAST, LEAST + 1, -1103515245}) {
            // the arithmetic of int, by that of long
            long next = (long) seed * 1103515245L + 12345L & 0xffffffffL;
            int place = (int) (next / 65536 % 32768 % 4);
            Check.due("walk(" + seed + ", 1, 1)", x.walk(seed, 1, 1), place == 3 ? 0 : place + 1);
        }
        Check.due("by itself: he has not gone", x.rule(6), 0);
        Check.due("nor a step", x.rule(5), 0);
        Check.due("nor string", x.count(0), 0);
        Check.due("no doors: modulo 1", new ThreadMoved().walk(7, 60, 1), 0);
        Check.due("60 steps", new ThreadMoved().walk(7, 60, 0), 60);
        Check.due("1 step", new ThreadMoved().walk(7, 1, 0), 1);
    }

    private static void walkPlace() {
        Sentence.of(30, "by the one at that place, behind all of them he stays.");
        // bits 16 to 30 are 0 from seed 0, 16838 from 1 (0 modulo 2, 2 modulo 3)
        ThreadMoved x = Check.told("rooms 4;door 0 1 barred;door 2 0;door 1 2;door 0 3;");
        Check.due("place 0 of those that lead: door 1", x.walk(0, 1, 1), 2);
        Check.due("place 2 of two: he stays", x.walk(1, 1, 1), 0);
        x.bar(3, true);
        Check.due("place 0 of one: door 1", x.walk(1, 1, 1), 2);
        x.bar(1, true);
        Check.due("of none he stays", x.walk(1, 1, 1), 0);
    }

    private static void walkSafe() {
        Sentence.of(30, "STEPS he is not EATEN in (what 0), where he is then (1).");
        ThreadMoved x = Check.told("rooms 3;door 0 1;beast 1 hungry;");
        Check.due("eaten in the first", x.walk(5, 60, 0), 0);
        Check.due("by going there from seed 0", x.walk(0, 60, 1), 1);
        x.lurk(2, 0);
        Check.due("never", x.walk(5, 60, 0), 60);
        // the door is barred at first, so that he stays; it opens behind two steps, and the beast is there
        x = Check.told("door 0 1 barred;bar 0;period 2;beast 1 left;");
        Check.due("eaten in the third", x.walk(9, 60, 0), 2);
        Check.due("two steps alone", x.walk(9, 2, 0), 2);
        Check.due("one alone", x.walk(9, 1, 0), 1);
        Check.due("he is not eaten by it", x.rule(9), 0);
    }

    private static void walkBad() {
        Sentence.of(30, "BAD;");
        Twins.allRefused(House::furnished, BAD, "walk(1, .., 0)", (x, n) -> x.walk(1, n, 0), LEAST, -1, 0, 61, MOST);
        Twins.allRefused(House::furnished, BAD, "walk(1, 1, ..)", (x, what) -> x.walk(1, 1, what), LEAST, -1, 2, MOST);
        Twins.allRefused(House::eaten, BAD, "walk(1, .., 0), eaten", (x, n) -> x.walk(1, n, 0), 0, 61);
        Check.due("any seed is as told", new ThreadMoved().walk(LEAST, 1, 0), 1);
    }

    private static void walkState() {
        Sentence.of(30, "STATE: he is EATEN.");
        Twins.allRefused(House::eaten, STATE, "walk(1, .., 0)", (x, n) -> x.walk(1, n, 0), 1, 60);
        Twins.refused(House::eaten, STATE, "walk(1, 1, 1)", x -> x.walk(1, 1, 1));
        ThreadMoved x = House.eaten();
        x.put(0);
        Check.dueTrue("not any more", x.walk(1, 1, 0) >= 0);
    }
}
