/** Promises 33 to 36: sheets, and steps read from them. */
final class BoundarySheets {
    private static final int BAD = -1, NONE = -4;
    private static final int LEAST = Integer.MIN_VALUE, MOST = Integer.MAX_VALUE;

    private BoundarySheets() {
    }

    static void all() {
        sheet();
        sheetBad();
        sheetSize();
        lay();
        layBad();
        layNull();
        layIndex();
        read();
        readNone();
        readTorn();
        readBad();
        readRefused();
        readRefusedInWhicheverWay();
        firstMet();
        torn();
        tornStays();
    }

    private static void sheet() {
        Sentence.of(33, "A SHEET is a new row of CELLS 0: 1.");
        ThreadMoved x = Check.told("door 0 1;");
        for (int lane = 0; lane < 3; lane++) {
            for (int k = 0; k < 4; k++) {
                Check.due("sheet(" + k + ", " + lane + ", 40)", x.sheet(k, lane, 40), 1);
                Check.due("lay the last", x.lay(k, 39, 9), 1);
                Check.due("it is refused", x.read(k, lane, 39, 1), -20);
                Check.due("a new row", x.sheet(k, lane, 40), 1);
                Check.due("the last cell is 0: by door 0", x.read(k, lane, 39, 1), 1);
                Check.due("no cells", x.sheet(k, lane, 0), 1);
                Check.due("there are none", x.read(k, lane, 0, 1), 0);
            }
        }
    }

    private static void sheetBad() {
        Sentence.of(33, "BAD: also n above 40;");
        Twins.allRefused(House::furnished, BAD, "sheet(.., 0, 1)", (x, k) -> x.sheet(k, 0, 1), LEAST, -1, 4, MOST);
        Twins.allRefused(House::furnished, BAD, "sheet(0, .., 1)", (x, lane) -> x.sheet(0, lane, 1), LEAST, -1, 3, MOST);
        Twins.allRefused(House::furnished, BAD, "sheet(0, 0, ..)", (x, n) -> x.sheet(0, 0, n), 41, 320, MOST);
        Twins.allRefused(House::furnished, BAD, "sheet(.., 0, -1)", (x, k) -> x.sheet(k, 0, -1), -1, 4);
        Twins.allRefused(House::furnished, BAD, "sheet(0, .., -1)", (x, lane) -> x.sheet(0, lane, -1), -1, 3);
    }

    private static void sheetSize() {
        Sentence.of(33, "-10 - 4.");
        Twins.allRefused(House::furnished, -14, "sheet(0, 0, ..)", (x, n) -> x.sheet(0, 0, n), -1, -40, LEAST);
        Twins.refused(House::furnished, -14, "sheet(3, 2, -1), of nothing", x -> x.sheet(3, 2, -1));
    }

    /** Whether a value, laid in a lane, is read as 10: he stays. */
    private static void laid(int lane, int v, boolean isTen) {
        ThreadMoved x = new ThreadMoved();
        x.sheet(3, lane, 1);
        Check.due("lay(3, 0, " + v + ")", x.lay(3, 0, v), 1);
        Check.due(v + " read of lane " + lane, x.read(3, lane, 0, 1), isTen ? 1 : -20);
    }

    private static void lay() {
        Sentence.of(34, "CELL i of a SHEET becomes v (its lowest bits): 1.");
        int[] values = {10, 266, 65546, 10 - 256, 10 - 65536, LEAST + 10, 138, 32778, -10, MOST, LEAST};
        for (int lane = 0; lane < 3; lane++) {
            for (int v : values) {
                laid(lane, v, (lane == 0 ? (byte) v : lane == 1 ? (short) v : v) == 10);
            }
        }
        ThreadMoved x = new ThreadMoved();
        x.sheet(0, 0, 40);
        x.sheet(1, 0, 40);
        Check.due("the first", x.lay(0, 0, 10), 1);
        Check.due("the last", x.lay(0, 39, 10), 1);
        Check.due("the first is read", x.read(0, 0, 0, 1), 1);
        Check.due("the last is read", x.read(0, 0, 39, 1), 1);
        Check.due("others are 0", x.read(0, 0, 38, 1), -20);
        Check.due("other sheets, too", x.read(1, 0, 0, 1), -20);
    }

    private static void layBad() {
        Sentence.of(34, "BAD: k;");
        Twins.allRefused(House::furnished, BAD, "lay(.., 0, 5)", (x, k) -> x.lay(k, 0, 5), LEAST, -1, 4, MOST);
        Twins.allRefused(House::furnished, BAD, "lay(.., -1, 5)", (x, k) -> x.lay(k, -1, 5), -1, 4);
    }

    private static void layNull() {
        Sentence.of(34, "-10 less the FAULT: NULL, INDEX.");
        Twins.allRefused(House::furnished, -11, "lay(3, .., 5)", (x, i) -> x.lay(3, i, 5), LEAST, -1, 0, 40, MOST);
        Twins.allRefused(ThreadMoved::new, -11, "lay(.., 0, 5)", (x, k) -> x.lay(k, 0, 5), 0, 1, 2, 3);
    }

    private static void layIndex() {
        Sentence.of(34, "-10 less the FAULT: NULL, INDEX.");
        Twins.allRefused(House::furnished, -12, "lay(0, .., 5)", (x, i) -> x.lay(0, i, 5), LEAST, -1, 4, 39, 40, MOST);
        Twins.allRefused(House::furnished, -12, "lay(2, .., 5)", (x, i) -> x.lay(2, i, 5), -1, 2);
        ThreadMoved x = new ThreadMoved();
        x.sheet(0, 0, 0);
        Check.due("of no cells", x.lay(0, 0, 5), -12);
        Check.due("torn() tells of read() alone", x.torn(), 0);
    }

    /** A row of steps on sheet 0; the door to 3, where the beast sleeps, is door 2. */
    private static ThreadMoved withRow(int lane, int... steps) {
        ThreadMoved x = Check.told("rooms 4;door 0 1;door 1 2;door 2 3;beast 3 sleeps;");
        x.sheet(0, lane, steps.length);
        for (int i = 0; i < steps.length; i++) {
            x.lay(0, i, steps[i]);
        }
        return x;
    }

    private static void read() {
        Sentence.of(35, "n (0 to 20) STEPS (as in go()) are read of a SHEET taken as of a lane, from CELL f on, one behind another: how "
                + "many went.");
        for (int lane = 0; lane < 3; lane++) {
            ThreadMoved x = withRow(lane, 0, 1, 10, 1, 0);
            Check.due("three", x.read(0, lane, 0, 3), 3);
            Check.due("his room", x.rule(6), 2);
            Check.due("two more", x.read(0, lane, 3, 2), 2);
            Check.due("his room", x.rule(6), 0);
            Check.due("step", x.rule(5), 5);
            Check.due("his string", x.count(0), 4);
        }
        ThreadMoved x = withRow(0, new int[40]);
        Check.due("20", x.read(0, 0, 0, 20), 20);
        Check.due("the last 20 of 40", x.read(0, 0, 20, 20), 20);
        Check.due("step", x.rule(5), 40);
        x = withRow(1, 0, 1, 2);
        Check.due("as in go(): eaten in the last", x.read(0, 1, 0, 3), 3);
        Check.due("rule(9)", x.rule(9), 1);
    }

    private static void readNone() {
        Sentence.of(35, "n (0 to 20) STEPS (as in go()) are read of a SHEET taken as of a lane, from CELL f on, one behind another: how "
                + "many went.");
        ThreadMoved x = withRow(0, 0);
        for (int f : new int[] {LEAST, -1, 0, 1, MOST}) {
            Check.due("none from cell " + f, x.read(0, 0, f, 0), 0);
            Check.due("torn()", x.torn(), 0);
        }
        Check.due("step", x.rule(5), 0);
        Check.due("of one who is eaten", House.eaten().read(0, 0, 0, 0), 0);
        Check.due("late", House.late().read(0, 0, 0, 0), 0);
    }

    private static void readTorn() {
        Sentence.of(35, "What the machine refuses: those ahead went (its FAULT is asked by torn()).");
        ThreadMoved x = withRow(0, 0, 1);
        Check.due("two of three", x.read(0, 0, 0, 3), 2);
        Check.due("they went", x.rule(6), 2);
        Check.due("INDEX", x.torn(), 2);
        Check.due("behind the last", x.read(0, 0, 2, 20), 0);
        Check.due("INDEX", x.torn(), 2);
        Check.due("ahead of the first", x.read(0, 0, -1, 20), 0);
        Check.due("INDEX", x.torn(), 2);
        Check.due("far ahead", x.read(0, 0, LEAST, 20), 0);
        Check.due("far behind", x.read(0, 0, MOST, 20), 0);
        Check.due("INDEX", x.torn(), 2);
        for (int k = 1; k < 4; k++) {
            Check.due("nothing", x.read(k, 0, k - 2, 1), 0);
            Check.due("NULL", x.torn(), 1);
        }
        Check.due("another lane", x.read(0, 2, 0, 1), 0);
        Check.due("CAST", x.torn(), 3);
        Check.due("another lane, and no such cell", x.read(0, 1, 40, 1), 0);
        Check.due("CAST", x.torn(), 3);
        Check.due("step", x.rule(5), 2);
        x.sheet(0, 0, 0);
        Check.due("no cells", x.read(0, 0, 0, 1), 0);
        Check.due("INDEX", x.torn(), 2);
    }

    private static void readBad() {
        Sentence.of(35, "BAD: k, lane, n;");
        Twins.allRefused(House::furnished, BAD, "read(.., 0, 0, 1)", (x, k) -> x.read(k, 0, 0, 1), LEAST, -1, 4, MOST);
        Twins.allRefused(House::furnished, BAD, "read(0, .., 0, 1)", (x, lane) -> x.read(0, lane, 0, 1), LEAST, -1, 3, MOST);
        Twins.allRefused(House::furnished, BAD, "read(0, 0, 0, ..)", (x, n) -> x.read(0, 0, 0, n), LEAST, -1, 21, MOST);
        Twins.allRefused(House::furnished, BAD, "read(3, 0, 0, ..), nothing", (x, n) -> x.read(3, 0, 0, n), -1, 21);
        Twins.refused(House::furnished, BAD, "read(0, 3, 0, 0)", x -> x.read(0, 3, 0, 0));
        Check.due("20 are as told", House.furnished().read(0, 0, 4, 20), 0);
    }

    private static void readRefused() {
        Sentence.of(35, "-20 less i: STEP i is refused by go() (in whichever way): then none went;");
        Twins.refused(() -> withRow(0, 0, 1, 0), -22, "read(0, 0, 0, 3)", x -> x.read(0, 0, 0, 3));
        Twins.refused(() -> withRow(2, 3), -20, "read(0, 2, 0, 1)", x -> x.read(0, 2, 0, 1));
        int[] row = new int[20];
        row[19] = 9;
        Twins.refused(() -> withRow(1, row), -39, "read(0, 1, 0, 20)", x -> x.read(0, 1, 0, 20));
        Twins.refused(() -> withRow(0, 0, 1, 2, 10), -23, "read(0, 0, 0, 4), eaten in 2", x -> x.read(0, 0, 0, 4));
    }

    private static void readRefusedInWhicheverWay() {
        Sentence.of(35, "-20 less i: STEP i is refused by go() (in whichever way): then none went;");
        for (int d : new int[] {-1, 3, 9, 11, LEAST, MOST}) {
            Check.due("BAD: " + d, withRow(2, 10, d).read(0, 2, 0, 2), -21);
        }
        Check.due("STATE: not from there", withRow(2, 10, 1).read(0, 2, 0, 2), -21);
        ThreadMoved eaten = House.eaten();
        eaten.sheet(0, 0, 1);
        eaten.lay(0, 0, 10);
        Check.due("STATE: eaten", eaten.read(0, 0, 0, 1), -20);
        Check.due("FULL", House.late().read(0, 0, 0, 1), -20);
        ThreadMoved x = Check.told("door 0 1;turn 0 1;");
        x.sheet(0, 0, 20);
        Check.due("doors as they lie in the row: moved away", x.read(0, 0, 0, 3), -21);
        Check.due("and moved back", x.door(0, 1), 1);
    }

    private static void firstMet() {
        Sentence.of(35, "the first met.");
        Check.due("refused ahead of INDEX", withRow(0, 0, 9).read(0, 0, 0, 3), -21);
        ThreadMoved x = withRow(0, 0, 1);
        Check.due("INDEX ahead of any other", x.read(0, 0, 0, 20), 2);
        Check.due("those ahead went", x.rule(5), 2);
        Check.due("two are refused", withRow(0, 0, 9, 9).read(0, 0, 0, 3), -21);
        Check.due("CAST ahead of what it would read", withRow(0, 9).read(0, 1, 0, 1), 0);
        Check.due("eaten, but nothing there", House.eaten().read(0, 0, 0, 1), 0);
    }

    private static void torn() {
        Sentence.of(36, "The FAULT of the latest read() that came to an end; 0.");
        ThreadMoved x = withRow(0, 10);
        Check.due("no read() yet", x.torn(), 0);
        x.read(1, 0, 0, 1);
        Check.due("NULL", x.torn(), 1);
        Check.due("it stays", x.torn(), 1);
        x.read(0, 0, 0, 2);
        Check.due("INDEX", x.torn(), 2);
        x.read(0, 1, 0, 2);
        Check.due("CAST", x.torn(), 3);
        x.read(0, 0, 0, 1);
        Check.due("no fault", x.torn(), 0);
        x.read(0, 1, 0, 2);
        x.read(0, 0, 0, 0);
        Check.due("no step, no fault", x.torn(), 0);
    }

    private static void tornStays() {
        Sentence.of(36, "The FAULT of the latest read() that came to an end; 0.");
        ThreadMoved x = withRow(0, 10, 9);
        x.read(0, 1, 0, 1);
        Check.due("refused by go()", x.read(0, 0, 0, 2), -21);
        Check.due("it did not come to an end", x.torn(), 3);
        Check.due("BAD", x.read(0, 0, 0, 21), BAD);
        Check.due("nor did that", x.torn(), 3);
        x.lay(3, 0, 0);
        x.sheet(3, 0, -1);
        Check.due("faults of others do not count", x.torn(), 3);
        x.go(10);
        x.text();
        Check.due("nor steps, nor a text", x.torn(), 3);
        Check.due("nothing is on sheet 3", x.count(5), 2);
    }
}
