/** Promises 26 to 29: what was heard, where the beast may be, walls. */
public final class BeastTest {
    public static void main(String[] args) {
        hear();
        hush();
        lair();
        lairByHabits();
        lairAtNight();
        wall();
        wallAtNight();
        wallLimits();
        Check.finish();
    }

    private static void hear() {
        ThreadMoved x = Check.told("rooms 3;door 0 1;");
        Check.due("hear(0, 0, true)", x.hear(0, 0, true), -1);
        Check.due("hear(13, 0, true)", x.hear(13, 0, true), -1);
        Check.due("hear(1, 3, true)", x.hear(1, 3, true), -1);
        Check.due("hear(1, -1, true)", x.hear(1, -1, true), -1);
        Check.due("hear(1, -4, true)", x.hear(1, -4, true), -1);
        for (int i = 1; i <= 6; i++) {
            Check.due("hear " + i, x.hear(2 * i, 2, true), i);
        }
        Check.due("hear, full", x.hear(1, 0, true), -3);
        Check.due("hear, full, no such room", x.hear(1, 3, true), -1);
        Check.due("count(2)", x.count(2), 6);
        Check.due("lair(0)", x.lair(0), 4);
    }

    private static void hush() {
        ThreadMoved x = Check.told("rooms 3;");
        Check.due("hush(0) of none", x.hush(0), 0);
        Check.due("hush(1) of none", x.hush(1), -1);
        x.hear(1, 1, true);
        x.hear(1, 1, false);
        Check.due("lair(0)", x.lair(0), 0);
        Check.due("hush(-1)", x.hush(-1), -1);
        Check.due("hush(3)", x.hush(3), -1);
        Check.due("hush(2)", x.hush(2), 2);
        Check.due("hush(1)", x.hush(1), 2);
        Check.due("lair(0)", x.lair(0), 2);
        Check.due("hush(0)", x.hush(0), 1);
        Check.due("lair(0)", x.lair(0), 6);
    }

    private static void lair() {
        ThreadMoved x = Check.told("rooms 7;in 3;beast 5 left;");
        Check.due("lair(-1)", x.lair(-1), -1);
        Check.due("lair(4)", x.lair(4), -1);
        Check.due("all rooms but his", x.lair(0), 127 - 8);
        x.hear(12, 3, true);
        Check.due("in none, though it is told where it is", x.lair(0), 0);
        x.hush(0);
        x.hear(12, 3, false);
        x.hear(12, 6, false);
        Check.due("not in 6", x.lair(0), 127 - 8 - 64);
        x.lurk(-4, 0);
        Check.due("if there is none, too", x.lair(0), 127 - 8 - 64);
    }

    private static void lairByHabits() {
        ThreadMoved x = Check.told("rooms 4;door 1 2;door 2 3;door 0 3;");
        x.hear(1, 2, true);
        Check.due("sleeps", x.lair(0), 4);
        Check.due("left: from 1, from 3", x.lair(1), 2 + 8);
        Check.due("hungry: stays in 2", x.lair(2), 4);
        Check.due("turns: as left in step 0", x.lair(3), 2 + 8);
        x.go(10);
        Check.due("turns: from 1; 3 goes to 0, 2 to 3", x.lair(3), 2);
        x.hush(0);
        x.hear(1, 0, true);
        Check.due("hungry: comes from 3 to him", x.lair(2), 8);
        x.hear(2, 0, true);
        Check.due("hungry: and stays there", x.lair(2), 8);
        x.hush(1);
        x.hear(2, 3, true);
        Check.due("turns: from 3 to 0, then from his room, too", x.lair(3), 8);
        x = Check.told("rooms 3;door 0 1;door 1 2;in 1;");
        x.hear(1, 1, true);
        x.hear(2, 0, true);
        Check.due("left: through his room", x.lair(1), 1 + 4);
        x.hear(3, 1, true);
        x.hear(4, 0, true);
        x.hear(12, 0, true);
        Check.due("left: and so on", x.lair(1), 1 + 4);
    }

    private static void lairAtNight() {
        ThreadMoved x = Check.told("rooms 4;door 1 2;turn 0 1;period 2;");
        x.hear(1, 2, true);
        x.hear(2, 1, true);
        x.hear(3, 3, true);
        Check.due("left: the door is moved behind two steps", x.lair(1), 2);
        x.go(10);
        Check.due("left: behind one", x.lair(1), 0);
        x.hush(1);
        Check.due("left: from 1 to 2", x.lair(1), 2);
        x = Check.told("rooms 3;door 0 1;beast 1 hungry;");
        x.go(10);
        Check.due("he is eaten", x.rule(9), 1);
        Check.due("all rooms but his", x.lair(0), 6);
    }

    private static void walls(ThreadMoved x, int fewest, int set) {
        Check.due("wall(0)", x.wall(0), fewest);
        Check.due("wall(1)", x.wall(1), set);
    }

    private static void wall() {
        ThreadMoved x = Check.told("rooms 4;door 0 1;door 1 2;door 2 3;in 1;");
        Check.due("wall(2)", x.wall(2), -1);
        Check.due("wall(-1)", x.wall(-1), -1);
        walls(x, -2, -2);
        x.lurk(3, 0);
        walls(x, 1, 1);
        x.bar(1, true);
        walls(x, 0, 0);
        x.lurk(0, 0);
        walls(x, -4, -4);
        x = Check.told("rooms 4;door 0 1;door 0 2;door 2 3;door 1 3;beast 3 sleeps;");
        walls(x, 2, 3);
        x = Check.told("rooms 4;door 0 1;door 0 1;door 0 1;door 2 1;door 0 2;beast 1 left;");
        Check.due("4 doors are too many", x.wall(0), -4);
        Check.due("so is their set", x.wall(1), -4);
        x.bar(4, true);
        walls(x, 3, 7);
        x.bar(0, true);
        walls(x, 2, 6);
        x = Check.told("rooms 5;door 0 1;door 0 1;door 1 2;door 2 3;beast 3 sleeps;");
        walls(x, 1, 4);
        x = Check.told("rooms 3;door 0 0;door 1 1;door 2 0;beast 1 left;");
        walls(x, 0, 0);
    }

    private static void wallAtNight() {
        ThreadMoved x = Check.told("rooms 4;door 1 2;door 3 3;turn 0 1;period 6;beast 1 sleeps;");
        walls(x, 1, 1);
        x = Check.told("rooms 3;door 0 1 barred;bar 0;beast 1 sleeps;");
        walls(x, 1, 1);
        x = Check.told("rooms 3;door 0 1 barred;beast 1 sleeps;");
        walls(x, 0, 0);
        x = Check.told("rooms 4;door 1 2;door 3 0;door 3 3;swap 0 1;period 2;beast 1 sleeps;");
        // a walled door leads nowhere, but its end is moved all the same
        walls(x, 1, 1);
    }

    private static void wallLimits() {
        ThreadMoved many = Check.told("rooms 4;" + "door 1 2;".repeat(8) + "door 2 3;door 3 0;in 2;beast 1 left;");
        walls(many, 1, 256);
        many = Check.told("rooms 4;" + "door 1 2;".repeat(9) + "door 2 0;in 2;beast 1 left;");
        walls(many, 1, 512);
        // the door leads to 0 in the very next step alone
        ThreadMoved once = Check.told("rooms 7;door 1 0;turn 0 1;period 4;beast 1 sleeps;in 2;");
        for (int i = 0; i < 4; i++) {
            walls(once, 1, 1);
            once.go(10);
        }
        walls(once, 0, 0);
        // the door comes to 0 behind 24 steps: too late by one
        ThreadMoved x = Check.told("rooms 7;door 1 3;turn 0 1;period 6;in 2;beast 1 sleeps;");
        walls(x, 0, 0);
        x.go(10);
        walls(x, 1, 1);
        x = Check.told("rooms 7;door 1 4;turn 0 1;period 6;in 2;beast 1 sleeps;");
        walls(x, 1, 1);
        // one step behind another: not through two doors in the same
        x = Check.told("rooms 3;door 1 2;door 2 0 barred;bar 0;bar 1;period 1;beast 1 sleeps;");
        walls(x, 1, 1);
    }
}
