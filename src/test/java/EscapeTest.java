/** Promises 20 and 21: how soon he can be in a room, and where he can be alive. */
public final class EscapeTest {
    public static void main(String[] args) {
        wrong();
        plainHouse();
        firstRows();
        beasts();
        night();
        aliveAlone();
        limits();
        turnsAndSteps();
        Check.finish();
    }

    private static void row(ThreadMoved x, int room, int... steps) {
        Check.due("soonest(" + room + ", 0)", x.soonest(room, 0), steps.length);
        for (int i = 0; i < 24; i++) {
            int due = i < steps.length ? steps[i] : -4;
            Check.due("soonest(" + room + ", " + (10 + i) + ")", x.soonest(room, 10 + i), due);
        }
    }

    private static void wrong() {
        ThreadMoved x = Check.told("rooms 3;door 0 1;beast 1 sleeps;");
        Check.due("soonest(3, 0)", x.soonest(3, 0), -1);
        Check.due("soonest(-1, 0)", x.soonest(-1, 0), -1);
        Check.due("soonest(0, 1)", x.soonest(0, 1), -1);
        Check.due("soonest(0, -1)", x.soonest(0, -1), -1);
        Check.due("soonest(0, 9)", x.soonest(0, 9), -1);
        Check.due("soonest(0, 34)", x.soonest(0, 34), -1);
        Check.due("soonest(0, 33)", x.soonest(0, 33), -4);
        Check.due("soonest(2, 0)", x.soonest(2, 0), -4);
        Check.due("soonest(2, 10)", x.soonest(2, 10), -4);
        Check.due("alive(-1)", x.alive(-1), -1);
        Check.due("alive(25)", x.alive(25), -1);
        Check.due("alive(24)", x.alive(24), 1);
        x.go(0);
        Check.due("soonest, eaten", x.soonest(0, 0), -2);
        Check.due("soonest to where he is, eaten", x.soonest(1, 10), -2);
        Check.due("alive, eaten", x.alive(0), -2);
        Check.due("alive, eaten, no such", x.alive(25), -1);
        Check.due("soonest, eaten, no such", x.soonest(0, 5), -1);
    }

    private static void plainHouse() {
        ThreadMoved x = Check.told("rooms 5;door 0 1;door 1 2;door 2 3;door 3 4 barred;");
        row(x, 0);
        row(x, 1, 0);
        row(x, 2, 0, 1);
        row(x, 3, 0, 1, 2);
        Check.due("soonest(4, 0)", x.soonest(4, 0), -4);
        int[] due = {1, 3, 7, 15, 15};
        for (int n = 0; n < due.length; n++) {
            Check.due("alive(" + n + ")", x.alive(n), due[n]);
        }
        Check.due("nothing is changed", x.rule(6), 0);
        Check.due("nor step", x.rule(5), 0);
        Check.due("nor his string", x.count(0), 0);
    }

    private static void firstRows() {
        ThreadMoved x = Check.told("rooms 4;door 0 2;door 0 1;door 1 3;door 2 3;door 2 3;door 0 1;");
        row(x, 3, 0, 3);
        row(x, 1, 1);
        x = Check.told("rooms 4;door 0 1;door 0 2;door 2 3 barred;door 1 3 barred;bar 2;bar 3;period 2;");
        // both doors to 3 are barred for two steps: doors come ahead of staying
        row(x, 3, 0, 10, 3);
        x = Check.told("rooms 3;door 0 1;door 1 2 barred;bar 1;period 3;");
        row(x, 2, 0, 0, 0, 1);
    }

    private static void beasts() {
        ThreadMoved x = Check.told("rooms 4;door 0 1;door 1 2;door 0 3;door 3 2;beast 1 sleeps;");
        row(x, 2, 2, 3);
        Check.due("soonest(1, 0): the beast sleeps there", x.soonest(1, 0), -4);
        Check.due("alive(2)", x.alive(2), 13);
        x = Check.told("rooms 3;door 0 1;door 1 2;beast 2 hungry;");
        Check.due("in 1 he is eaten", x.soonest(1, 0), -4);
        Check.due("alive(24)", x.alive(24), 1);
        x = Check.told("rooms 2;door 0 1;beast 1 hungry;");
        Check.due("alive(0)", x.alive(0), 1);
        Check.due("alive(1): nowhere", x.alive(1), 0);
        Check.due("soonest(1, 0)", x.soonest(1, 0), -4);
        Check.due("soonest(0, 0): he is there", x.soonest(0, 0), 0);
        x = Check.told("rooms 5;door 2 3;door 1 2;door 0 1;door 1 4;beast 1 left;");
        // it goes to 2 in the first step, then to and fro between 2 and 3
        row(x, 1, 10, 2);
        row(x, 4, 10, 2, 3);
        Check.due("alive(1)", x.alive(1), 1);
        Check.due("alive(2)", x.alive(2), 3);
        Check.due("alive(3): in 2 it meets him", x.alive(3), 19);
        x.lurk(-4, 0);
        row(x, 1, 2);
        x = Check.told("rooms 4;door 1 2;door 0 1;door 1 3;beast 2 left;");
        Check.due("it is in 1 ahead of him, or comes there", x.soonest(1, 0), -4);
    }

    private static void night() {
        ThreadMoved x = Check.told("rooms 4;door 0 1;turn 0 1;period 2;");
        row(x, 2, 0, 0, 0);
        row(x, 3, 0, 0, 0, 0, 0);
        x.go(10);
        row(x, 2, 10, 0);
        x.period(1);
        row(x, 2, 10, 0);
    }

    /** Each question on an object of its own, so that none is answered from what another left. */
    private static void aliveAlone() {
        String house = "rooms 5;door 0 1;door 1 2;door 2 3;door 3 4;";
        int[] due = {1, 3, 7, 15, 31};
        for (int n = 0; n < due.length; n++) {
            Check.due("alive(" + n + ") alone", Check.told(house).alive(n), due[n]);
        }
        ThreadMoved x = Check.told(house);
        x.alive(24);
        x.put(4);
        Check.due("alive(1) from 4", x.alive(1), 24);
        x.bar(3, true);
        Check.due("alive(2), shut in", x.alive(2), 16);
        x = Check.told("rooms 3;door 0 2;door 1 2;in 1;beast 0 left;");
        Check.due("a beast in 0 comes to 2 in the first step", x.alive(1), 2);
        Check.due("and goes back in the second", x.alive(2), 2);
        x.lurk(0, 0);
        Check.due("a beast in 0 sleeps", x.alive(1), 6);
        Check.due("it is never met in 0", x.alive(2), 6);
    }

    private static void limits() {
        // the door to 1 opens when it has turned round: 6 turns of 4 steps
        ThreadMoved x = Check.told("rooms 7;door 0 2;turn 0 1;period 4;");
        Check.due("soonest(1, 0): 24 steps do not do", x.soonest(1, 0), -4);
        x.go(10);
        Check.due("soonest(1, 0): one step nearer", x.soonest(1, 0), 24);
        Check.due("soonest(1, 33)", x.soonest(1, 33), 0);
        Check.due("alive(24)", x.alive(24) >> 1 & 1, 1);
        Check.due("alive(23)", x.alive(23) >> 1 & 1, 0);
    }

    private static void turnsAndSteps() {
        ThreadMoved x = Check.told("rooms 4;door 2 3;door 2 1;door 0 1;beast 2 turns;");
        // step 0: to 3; step 1: back to 2 by the one door; step 2: to 3 again
        row(x, 1, 2);
        Check.due("soonest(2, 0)", x.soonest(2, 0), -4);
        x.go(10);
        Check.due("rule(7)", x.rule(7), 3);
        x.lurk(2, 3);
        // step 1: to 1; step 2: back to 2 by door 1; step 3: to 1 again
        Check.due("soonest(1, 0)", x.soonest(1, 0), -4);
        Check.due("alive(24)", x.alive(24), 1);
    }
}
