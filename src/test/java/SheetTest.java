/** Promises 33 to 36: sheets and the steps read from them. */
public final class SheetTest {
    public static void main(String[] args) {
        sheet();
        lay();
        lanes();
        read();
        readRefused();
        readTorn();
        readNone();
        undone();
        Check.finish();
    }

    private static void sheet() {
        ThreadMoved x = new ThreadMoved();
        Check.due("sheet(-1, 0, 1)", x.sheet(-1, 0, 1), -1);
        Check.due("sheet(4, 0, 1)", x.sheet(4, 0, 1), -1);
        Check.due("sheet(0, -1, 1)", x.sheet(0, -1, 1), -1);
        Check.due("sheet(0, 3, 1)", x.sheet(0, 3, 1), -1);
        Check.due("sheet(0, 0, 41)", x.sheet(0, 0, 41), -1);
        Check.due("sheet(0, 0, -1)", x.sheet(0, 0, -1), -14);
        Check.due("sheet(0, 0, least)", x.sheet(0, 0, Integer.MIN_VALUE), -14);
        Check.due("sheet(0, 3, -1)", x.sheet(0, 3, -1), -1);
        Check.due("sheet(4, 0, -1)", x.sheet(4, 0, -1), -1);
        Check.due("count(5)", x.count(5), -4);
        Check.due("sheet(0, 0, 0)", x.sheet(0, 0, 0), 1);
        Check.due("count(5)", x.count(5), 0);
        Check.due("sheet(0, 2, 40)", x.sheet(0, 2, 40), 1);
        Check.due("count(5)", x.count(5), 40);
        Check.due("sheet(0, 1, -1)", x.sheet(0, 1, -1), -14);
        Check.due("it stays", x.count(5), 40);
        Check.due("lay(0, 39, 1)", x.lay(0, 39, 1), 1);
    }

    private static void lay() {
        ThreadMoved x = new ThreadMoved();
        Check.due("lay(-1, 0, 0)", x.lay(-1, 0, 0), -1);
        Check.due("lay(4, 0, 0)", x.lay(4, 0, 0), -1);
        Check.due("lay(0, 0, 0)", x.lay(0, 0, 0), -11);
        Check.due("lay(0, -1, 0)", x.lay(0, -1, 0), -11);
        x.sheet(0, 1, 3);
        Check.due("lay(0, 2, 0)", x.lay(0, 2, 0), 1);
        Check.due("lay(0, 3, 0)", x.lay(0, 3, 0), -12);
        Check.due("lay(0, -1, 0)", x.lay(0, -1, 0), -12);
        Check.due("lay(0, least, 0)", x.lay(0, Integer.MIN_VALUE, 0), -12);
        x.sheet(0, 1, 0);
        Check.due("lay of no cells", x.lay(0, 0, 0), -12);
        Check.due("lay(3, 0, 0)", x.lay(3, 0, 0), -11);
    }

    /** Values keep their lowest bits: 8, 16, 32, with a sign. */
    private static void lanes() {
        int[] values = {10, 256 + 10, 65536 + 10, -1, 255, 128 + 10};
        boolean[][] stays = {{true, true, true, false, false, false}, {true, false, true, false, false, false},
            {true, false, false, false, false, false}};
        for (int lane = 0; lane < 3; lane++) {
            ThreadMoved x = new ThreadMoved();
            x.sheet(1, lane, values.length);
            for (int i = 0; i < values.length; i++) {
                x.lay(1, i, values[i]);
                Check.due("lane " + lane + ": " + values[i], x.read(1, lane, i, 1), stays[lane][i] ? 1 : -20);
            }
        }
        ThreadMoved x = Check.told("door 0 1;");
        x.sheet(2, 0, 2);
        x.lay(2, 0, 10);
        x.sheet(2, 0, 2);
        Check.due("cells are 0 in a new one: by door 0", x.read(2, 0, 0, 2), 2);
        Check.due("count(0)", x.count(0), 2);
    }

    private static ThreadMoved withRow(int lane, int... steps) {
        ThreadMoved x = Check.told("rooms 4;door 0 1;door 1 2;door 2 3;turn 2 1;period 4;beast 3 sleeps;");
        x.sheet(0, lane, steps.length);
        for (int i = 0; i < steps.length; i++) {
            x.lay(0, i, steps[i]);
        }
        return x;
    }

    private static void read() {
        ThreadMoved x = withRow(2, 0, 1, 10, 1, 0);
        Check.due("read(-1, 2, 0, 1)", x.read(-1, 2, 0, 1), -1);
        Check.due("read(4, 2, 0, 1)", x.read(4, 2, 0, 1), -1);
        Check.due("read(0, -1, 0, 1)", x.read(0, -1, 0, 1), -1);
        Check.due("read(0, 3, 0, 1)", x.read(0, 3, 0, 1), -1);
        Check.due("read(0, 2, 0, -1)", x.read(0, 2, 0, -1), -1);
        Check.due("read(0, 2, 0, 21)", x.read(0, 2, 0, 21), -1);
        Check.due("torn()", x.torn(), 0);
        Check.due("read(0, 2, 0, 3)", x.read(0, 2, 0, 3), 3);
        Check.due("rule(6)", x.rule(6), 2);
        Check.due("rule(5)", x.rule(5), 3);
        Check.due("count(0)", x.count(0), 2);
        Check.due("read(0, 2, 3, 2)", x.read(0, 2, 3, 2), 2);
        Check.due("rule(6)", x.rule(6), 0);
        Check.due("it was dusk", x.door(2, 1), 0);
        Check.due("torn()", x.torn(), 0);
    }

    private static void readRefused() {
        ThreadMoved x = withRow(1, 0, 1, 0, 3, 11, -1);
        Check.due("STATE at 2", x.read(0, 1, 0, 6), -22);
        Check.due("none went", x.rule(5), 0);
        Check.due("rule(6)", x.rule(6), 0);
        Check.due("count(0)", x.count(0), 0);
        Check.due("BAD at 0", x.read(0, 1, 3, 1), -20);
        Check.due("BAD at 0", x.read(0, 1, 4, 1), -20);
        Check.due("BAD at 0", x.read(0, 1, 5, 1), -20);
        Check.due("torn() stays", x.torn(), 0);
        x = withRow(0, 0, 1, 2, 10);
        Check.due("eaten in the last", x.read(0, 0, 0, 3), 3);
        Check.due("rule(9)", x.rule(9), 1);
        Check.due("eaten already", x.read(0, 0, 3, 1), -20);
        x = withRow(0, 0, 1, 2, 10);
        Check.due("eaten in 2, then 3 is refused", x.read(0, 0, 0, 4), -23);
        Check.due("rule(9)", x.rule(9), 0);
        Check.due("rule(6)", x.rule(6), 0);
    }

    private static void readTorn() {
        ThreadMoved x = withRow(0, 0, 1, 10);
        Check.due("torn() at first", x.torn(), 0);
        Check.due("INDEX", x.read(0, 0, 1, 1), -20);
        Check.due("INDEX at 3: three went", x.read(0, 0, 0, 20), 3);
        Check.due("torn()", x.torn(), 2);
        Check.due("rule(6)", x.rule(6), 2);
        Check.due("rule(5)", x.rule(5), 3);
        Check.due("NULL", x.read(1, 0, 0, 1), 0);
        Check.due("torn()", x.torn(), 1);
        Check.due("NULL, whatever the index", x.read(1, 0, -1, 1), 0);
        Check.due("torn()", x.torn(), 1);
        Check.due("CAST", x.read(0, 1, 0, 1), 0);
        Check.due("torn()", x.torn(), 3);
        Check.due("CAST", x.read(0, 2, 99, 1), 0);
        Check.due("torn(): CAST ahead of INDEX", x.torn(), 3);
        Check.due("BAD", x.read(0, 0, 0, 21), -1);
        Check.due("torn() stays", x.torn(), 3);
        Check.due("refused by go()", x.read(0, 0, 0, 1), -20);
        Check.due("torn() stays", x.torn(), 3);
        Check.due("INDEX below 0", x.read(0, 0, -1, 2), 0);
        Check.due("torn()", x.torn(), 2);
        Check.due("INDEX far off", x.read(0, 0, Integer.MAX_VALUE, 20), 0);
        Check.due("torn()", x.torn(), 2);
        Check.due("INDEX far below", x.read(0, 0, Integer.MIN_VALUE, 20), 0);
        Check.due("torn()", x.torn(), 2);
        Check.due("one goes", x.read(0, 0, 2, 1), 1);
        Check.due("torn()", x.torn(), 0);
    }

    /** Where no step is read, the machine finds nothing. */
    private static void readNone() {
        ThreadMoved x = withRow(0, 0);
        x.read(0, 0, 1, 1);
        Check.due("torn()", x.torn(), 2);
        Check.due("n is 0", x.read(0, 0, 99, 0), 0);
        Check.due("torn()", x.torn(), 0);
        x.read(0, 0, 1, 1);
        Check.due("n is 0, nothing", x.read(3, 0, 0, 0), 0);
        Check.due("torn()", x.torn(), 0);
        Check.due("rule(5)", x.rule(5), 0);
    }

    /** All that a step changes is as it was, if one behind it is refused. */
    private static void undone() {
        ThreadMoved x = Check.told("rooms 4;door 0 1;door 2 3;turn 0 1;bar 1;beast 3 left;string 5;");
        x.sheet(3, 2, 3);
        x.lay(3, 1, 10);
        x.lay(3, 2, 9);
        Check.due("read", x.read(3, 2, 0, 3), -22);
        int[] due = {4, 2, 1, 2, 5, 0, 0, 3, 1, 0};
        for (int i = 0; i < due.length; i++) {
            Check.due("rule(" + i + ")", x.rule(i), due[i]);
        }
        Check.due("door(0, 1)", x.door(0, 1), 1);
        Check.due("door(1, 2)", x.door(1, 2), 0);
        Check.due("count(0)", x.count(0), 0);
        Check.due("read without it", x.read(3, 2, 0, 2), 2);
        Check.due("door(0, 1)", x.door(0, 1), 3);
        Check.due("rule(7)", x.rule(7), 0);
    }
}
