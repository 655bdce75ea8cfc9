/** Promises 20 and 21: how soon he can be in a room, where he can be alive. */
final class BoundaryRows {
    private static final int BAD = -1, STATE = -2, NONE = -4;
    private static final int LEAST = Integer.MIN_VALUE, MOST = Integer.MAX_VALUE;

    private BoundaryRows() {
    }

    static void all() {
        soonest();
        stepOfRow();
        soonestBad();
        soonestState();
        soonestNone();
        notSoMany();
        alive();
        aliveBad();
        aliveState();
    }

    /** Behind a step, the door to 1 opens for step 24 first. */
    private static ThreadMoved farAway() {
        ThreadMoved x = Check.told("rooms 7;door 0 2;turn 0 1;period 4;");
        x.go(10);
        return x;
    }

    private static void soonest() {
        Sentence.of(20, "In how many STEPS (24 at most) he CAN come to a ROOM (what 0), the fewest;");
        ThreadMoved x = farAway();
        Check.due("none", x.soonest(0, 0), 0);
        Check.due("one", x.soonest(2, 0), 1);
        Check.due("24", x.soonest(1, 0), 24);
        x = Check.told("rooms 7;door 0 1;door 1 2;door 2 3;door 3 4;door 4 5;door 5 6;");
        for (int room = 0; room < 7; room++) {
            Check.due("room " + room, x.soonest(room, 0), room);
        }
        Check.due("he has not gone", x.rule(6), 0);
        Check.due("no step", x.rule(5), 0);
        Check.due("no string", x.count(0), 0);
        Check.due("a door to the same room is no need", Check.told("door 0 0;").soonest(0, 0), 0);
    }

    private static void stepOfRow() {
        Sentence.of(20, "10 and i (0 to 23): STEP i of the first such row.");
        ThreadMoved x = Check.told("rooms 7;door 0 1;door 1 2;door 2 3;door 3 4;door 4 5;door 5 6;");
        for (int i = 0; i < 6; i++) {
            Check.due("step " + i, x.soonest(6, 10 + i), i);
        }
        x = farAway();
        Check.due("the last of 24 steps", x.soonest(1, 33), 0);
        // he goes to and fro, doors being ahead of staying, but has to be in 0 at each dusk: behind the third step first
        for (int i = 0; i < 24; i++) {
            Check.due("step " + i + " of 24", x.soonest(1, 10 + i), i == 2 ? 10 : 0);
        }
    }

    private static void soonestBad() {
        Sentence.of(20, "BAD;");
        Twins.allRefused(House::furnished, BAD, "soonest(.., 0)", (x, r) -> x.soonest(r, 0), LEAST, NONE, -1, 5, 7, MOST);
        Twins.allRefused(House::furnished, BAD, "soonest(0, ..)", (x, w) -> x.soonest(0, w), LEAST, -1, 1, 9, 34, MOST);
        Twins.allRefused(House::eaten, BAD, "soonest(0, ..), eaten", (x, w) -> x.soonest(0, w), 9, 34);
        Check.due("no such room, eaten", House.eaten().soonest(3, 0), BAD);
        Check.due("what 33 is as told", House.furnished().soonest(0, 33), NONE);
    }

    private static void soonestState() {
        Sentence.of(20, "STATE: he is EATEN;");
        Twins.allRefused(House::eaten, STATE, "soonest(.., 0)", (x, r) -> x.soonest(r, 0), 0, 1, 2);
        Twins.allRefused(House::eaten, STATE, "soonest(1, ..)", (x, w) -> x.soonest(1, w), 10, 33);
        ThreadMoved x = House.eaten();
        x.put(2);
        Check.due("not any more", x.soonest(2, 0), 0);
    }

    private static void soonestNone() {
        Sentence.of(20, "NONE: in none;");
        Check.due("no doors", new ThreadMoved().soonest(1, 0), NONE);
        Check.due("no doors, a step", new ThreadMoved().soonest(1, 10), NONE);
        Twins.allRefused(House::furnished, NONE, "soonest(4, ..)", (x, w) -> x.soonest(4, w), 0, 10, 33);
        ThreadMoved x = Check.told("rooms 7;door 0 2;turn 0 1;period 4;");
        Check.due("25 steps", x.soonest(1, 0), NONE);
        Check.due("a step of them", x.soonest(1, 10), NONE);
        x = Check.told("door 0 1;beast 1 sleeps;");
        Check.due("the beast is there", x.soonest(1, 0), NONE);
    }

    private static void notSoMany() {
        Sentence.of(20, "10 and i: not so many.");
        ThreadMoved x = Check.told("rooms 3;door 0 1;door 1 2;");
        Check.due("the second of two", x.soonest(2, 11), 1);
        Check.due("the third of two", x.soonest(2, 12), NONE);
        Check.due("the last there can be", x.soonest(2, 33), NONE);
        Check.due("the first of none", x.soonest(0, 10), NONE);
    }

    private static void alive() {
        Sentence.of(21, "ROOMS to which he CAN come in n STEPS (0 to 24; bits).");
        Check.due("in 0: where he is", Check.told("rooms 7;in 6;").alive(0), 64);
        ThreadMoved x = Check.told("rooms 7;door 0 1;door 1 2;door 2 3;door 3 4;door 4 5;door 5 6;");
        int[] due = {1, 3, 7, 15, 31, 63, 127, 127};
        for (int n = 0; n < due.length; n++) {
            Check.due("in " + n, x.alive(n), due[n]);
        }
        Check.due("in 24", x.alive(24), 127);
        x = farAway();
        Check.due("in 23, not in 1", x.alive(23), 125);
        Check.due("in 24, in 1, too", x.alive(24), 127);
        x = Check.told("door 0 1;beast 1 hungry;");
        Check.due("in 0 he is still alive", x.alive(0), 1);
        Check.due("in 1: nowhere", x.alive(1), 0);
        Check.due("in 24: nowhere", x.alive(24), 0);
        Check.due("he has not gone", x.rule(5), 0);
    }

    private static void aliveBad() {
        Sentence.of(21, "BAD;");
        Twins.allRefused(House::furnished, BAD, "alive", ThreadMoved::alive, LEAST, -1, 25, MOST);
        Twins.allRefused(House::eaten, BAD, "alive, eaten", ThreadMoved::alive, -1, 25);
    }

    private static void aliveState() {
        Sentence.of(21, "STATE: he is EATEN.");
        Twins.allRefused(House::eaten, STATE, "alive", ThreadMoved::alive, 0, 1, 24);
        ThreadMoved x = House.eaten();
        x.lurk(NONE, 0);
        Check.due("though the beast is gone", x.alive(0), STATE);
    }
}
