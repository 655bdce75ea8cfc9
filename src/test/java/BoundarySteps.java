/** Promises 15 to 19: steps, dusks, his string. */
final class BoundarySteps {
    private static final int BAD = -1, STATE = -2, FULL = -3, NONE = -4;
    private static final int LEAST = Integer.MIN_VALUE, MOST = Integer.MAX_VALUE;

    private BoundarySteps() {
    }

    static void all() {
        go();
        goEaten();
        goBad();
        goNotLeading();
        goEatenAlready();
        goFull();
        dusk();
        duskBad();
        again();
        againNone();
        thread();
        threadBad();
        threadNone();
        leads();
        broken();
        leadsBad();
        notBroken();
    }

    private static void go() {
        Sentence.of(15, "A STEP by a DOOR (10: HE stays): where he is;");
        ThreadMoved x = Check.told("rooms 7;door 0 6;" + "door 0 0;".repeat(8) + "door 6 1;");
        Check.due("by door 0", x.go(0), 6);
        Check.due("he stays", x.go(10), 6);
        Check.due("by door 9", x.go(9), 1);
        Check.due("rule(6)", x.rule(6), 1);
        Check.due("rule(5)", x.rule(5), 3);
        Check.due("he stays where there are no doors", new ThreadMoved().go(10), 0);
    }

    private static void goEaten() {
        Sentence.of(15, "10 and it, if he is EATEN.");
        Check.due("in room 0", Check.told("door 0 1;beast 1 left;").go(10), 10);
        Check.due("in room 6", Check.told("rooms 7;door 0 6;beast 6 sleeps;").go(0), 16);
        Check.due("rule(6) is the room", House.eaten().rule(6), 1);
    }

    private static void goBad() {
        Sentence.of(15, "BAD;");
        Twins.allRefused(House::furnished, BAD, "go", ThreadMoved::go, LEAST, NONE, -1, 5, 9, 11, MOST);
        Twins.allRefused(House::eaten, BAD, "go, eaten", ThreadMoved::go, -1, 2, 9, 11);
        Twins.allRefused(House::late, BAD, "go, late", ThreadMoved::go, -1, 2, 11);
        Check.due("no doors", new ThreadMoved().go(0), BAD);
        Check.due("10 is no door of ten", Check.told("door 0 1;".repeat(10)).go(10), 0);
        Check.due("11 with ten doors", Check.told("door 0 1;".repeat(10)).go(11), BAD);
    }

    private static void goNotLeading() {
        Sentence.of(15, "STATE: the DOOR does not LEAD from HIS ROOM,");
        Twins.refused(House::furnished, STATE, "go(1), from other rooms", x -> x.go(1));
        Twins.refused(House::furnished, STATE, "go(3), from other rooms", x -> x.go(3));
        ThreadMoved x = Check.told("door 0 1 barred;");
        Check.due("barred", x.go(0), STATE);
        x.bar(0, false);
        Check.due("not any more", x.go(0), 1);
        x = Check.told("rooms 3;door 0 1;turn 0 1;");
        x.go(0);
        Check.due("it has been moved away", x.go(0), STATE);
        Check.due("no step more", x.rule(5), 1);
    }

    private static void goEatenAlready() {
        Sentence.of(15, "he is EATEN already;");
        Twins.allRefused(House::eaten, STATE, "go", ThreadMoved::go, 0, 1, 10);
        ThreadMoved x = House.eaten();
        x.lurk(NONE, 0);
        Check.due("though the beast is gone", x.go(10), STATE);
        x.put(1);
        Check.due("put there anew", x.go(10), 1);
    }

    private static void goFull() {
        Sentence.of(15, "FULL: it would be the 1000th.");
        Twins.allRefused(House::late, FULL, "go", ThreadMoved::go, 0, 10);
        ThreadMoved x = House.late();
        Check.due("read() too is refused", x.read(0, 0, 0, 1), -20);
        Check.due("step", x.rule(5), 999);
        Check.due("a new text begins anew", Check.tell(x, "door 0 1;"), 1);
        Check.due("go(0)", x.go(0), 1);
        x = House.late();
        x.keep(0);
        x.sheet(0, 0, 0);
        Check.due("an image of it", x.back(0), 999);
        Check.due("go(10)", x.go(10), FULL);
    }

    private static void dusk() {
        Sentence.of(16, "Of a DOOR behind n DUSKS (0 to 60) from now on: 0, 1 its ENDS, 2 whether it is BARRED.");
        ThreadMoved x = Check.told("rooms 7;door 3 1;door 5 2 barred;turn 0 2;bar 1;period 6;");
        int[] times = {0, 1, 3, 59, 60};
        for (int n : times) {
            Check.due("first end behind " + n, x.dusk(n, 0, 0), 3);
            Check.due("second end behind " + n, x.dusk(n, 0, 1), (1 + 2 * n) % 7);
            Check.due("bar behind " + n, x.dusk(n, 1, 2), (n + 1) % 2);
        }
        Check.due("nothing is moved by asking", x.door(0, 1), 1);
        for (int i = 0; i < 6; i++) {
            x.go(10);
        }
        Check.due("from now on", x.dusk(60, 0, 1), (3 + 120) % 7);
        Check.due("no rules", Check.told("door 0 1;").dusk(60, 0, 1), 1);
    }

    private static void duskBad() {
        Sentence.of(16, "BAD.");
        Twins.allRefused(House::furnished, BAD, "dusk(.., 0, 0)", (x, n) -> x.dusk(n, 0, 0), LEAST, -1, 61, MOST);
        Twins.allRefused(House::furnished, BAD, "dusk(0, .., 0)", (x, d) -> x.dusk(0, d, 0), LEAST, -1, 5, 10, MOST);
        Twins.allRefused(House::furnished, BAD, "dusk(60, 0, ..)", (x, what) -> x.dusk(60, 0, what), LEAST, -1, 3, MOST);
        Check.due("no doors", new ThreadMoved().dusk(0, 0, 0), BAD);
    }

    private static void again() {
        Sentence.of(17, "Behind how many DUSKS (1 to 60) from now on all DOORS are as they are now first.");
        Check.due("no doors", new ThreadMoved().again(), 1);
        Check.due("no rules", Check.told("door 0 1;").again(), 1);
        Check.due("a bar", Check.told("door 0 1;bar 0;").again(), 2);
        Check.due("two bars of one door", Check.told("door 0 1;bar 0;bar 0;").again(), 1);
        Check.due("a turn by 6 of 7", Check.told("rooms 7;door 0 1;turn 0 6;").again(), 7);
        Check.due("a turn by 6 of 3", Check.told("rooms 3;door 0 1;turn 0 6;").again(), 1);
        // a ring of four doors with a turn of 5 among them is 20, a ring of three others 3
        String house = "rooms 5;door 0 0;door 0 0;door 0 0;door 0 0;door 0 1;door 0 2;door 0 3;";
        Check.due("60", Check.told(house + "swap 0 1;swap 1 2;swap 2 3;turn 0 1;swap 4 5;swap 5 6;").again(), 60);
        ThreadMoved x = Check.told("rooms 7;door 0 1;turn 0 1;");
        x.go(10);
        Check.due("as they are now, not as told", x.again(), 7);
        Check.due("nothing is moved by asking", x.door(0, 1), 2);
    }

    private static void againNone() {
        Sentence.of(17, "NONE: behind none of these.");
        // a ring of five doors, a turn of 7, a bar: 70
        String house = "rooms 7;door 0 0;door 0 1;door 0 2;door 0 3;door 0 4;door 0 0;";
        String rules = "swap 0 1;swap 1 2;swap 2 3;swap 3 4;turn 5 1;bar 5;";
        Check.due("70", Check.told(house + rules).again(), NONE);
        Twins.refused(() -> Check.told(house + rules), NONE, "again()", ThreadMoved::again);
        // a ring of four with a turn of 7 among them is 28, a ring of three others 3: 84
        String other = "rooms 7;door 0 0;door 0 0;door 0 0;door 0 0;door 0 1;door 0 2;door 0 3;";
        Check.due("84", Check.told(other + "swap 0 1;swap 1 2;swap 2 3;turn 0 1;swap 4 5;swap 5 6;").again(), NONE);
    }

    private static ThreadMoved withString() {
        ThreadMoved x = Check.told("rooms 3;door 0 1;door 1 2;door 2 0;");
        for (int i = 0; i < 14; i++) {
            x.go(i % 3);
        }
        x.put(0);
        return x;
    }

    private static void thread() {
        Sentence.of(18, "DOOR i on his STRING (0 on).");
        ThreadMoved x = withString();
        for (int i = 0; i < 12; i++) {
            Check.due("thread(" + i + ")", x.thread(i), i % 3);
        }
    }

    private static void threadBad() {
        Sentence.of(18, "BAD;");
        Twins.allRefused(House::furnished, BAD, "thread", ThreadMoved::thread, LEAST, NONE, -1);
        Check.due("of no string", new ThreadMoved().thread(-1), BAD);
    }

    private static void threadNone() {
        Sentence.of(18, "NONE: there are not so many.");
        Twins.allRefused(House::furnished, NONE, "thread", ThreadMoved::thread, 2, 4, 5, 11, 12, MOST);
        Check.due("of no string", new ThreadMoved().thread(0), NONE);
        Check.due("the 13th", withString().thread(12), NONE);
    }

    private static void leads() {
        Sentence.of(19, "Where his STRING LEADS (what 0: the ROOM),");
        Check.due("no door on it: his room", new ThreadMoved().leads(0), 0);
        ThreadMoved x = Check.told("rooms 7;in 6;");
        Check.due("no door on it: his room", x.leads(0), 6);
        x = withString();
        Check.due("four times round", x.leads(0), 0);
        x.bite(2);
        x.put(2);
        Check.due("through two", x.leads(0), 0);
        x.bar(0, true);
        Check.due("to where it is broken", x.leads(0), 1);
        x.bar(1, true);
        Check.due("broken at once: his room", x.leads(0), 2);
        Check.due("of one who is eaten", House.eaten().leads(0), 0);
    }

    private static void broken() {
        Sentence.of(19, "at which DOOR it is BROKEN, as a place on it (1).");
        ThreadMoved x = withString();
        x.put(1);
        Check.due("its last place", x.leads(1), 11);
        x.bite(11);
        x.put(2);
        Check.due("it is not", x.leads(1), NONE);
        x.bar(0, true);
        Check.due("door 0 is at place 9", x.leads(1), 9);
        x.bite(1);
        Check.due("at place 0", x.leads(1), 0);
    }

    private static void leadsBad() {
        Sentence.of(19, "BAD;");
        Twins.allRefused(House::furnished, BAD, "leads", ThreadMoved::leads, LEAST, -1, 2, 10, MOST);
    }

    private static void notBroken() {
        Sentence.of(19, "NONE (1): it is not.");
        Check.due("no door on it", new ThreadMoved().leads(1), NONE);
        ThreadMoved x = Check.told("door 0 1;");
        x.go(0);
        Check.due("one door", x.leads(1), NONE);
        x.bar(0, true);
        Check.due("broken", x.leads(1), 0);
        x.bite(0);
        Check.due("bitten off", x.leads(1), NONE);
    }
}
