/** Promises 10 to 14: what is changed. */
final class BoundaryChanges {
    private static final int BAD = -1, STATE = -2, NONE = -4;
    private static final int LEAST = Integer.MIN_VALUE, MOST = Integer.MAX_VALUE;

    private BoundaryChanges() {
    }

    static void all() {
        bar();
        barBad();
        period();
        periodBad();
        put();
        putBad();
        putState();
        lurk();
        lurkNone();
        lurkBad();
        lurkState();
        bite();
        biteBad();
    }

    private static void bar() {
        Sentence.of(10, "A DOOR is BARRED, or not: whether it was.");
        ThreadMoved x = Check.told("door 0 1;".repeat(10));
        for (int d = 0; d < 10; d += 9) {
            Check.due("not, and it was not", x.bar(d, false), 0);
            Check.due("barred", x.bar(d, true), 0);
            Check.due("barred, and it was", x.bar(d, true), 1);
            Check.due("door(" + d + ", 2)", x.door(d, 2), 1);
            Check.due("not any more", x.bar(d, false), 1);
            Check.due("door(" + d + ", 2)", x.door(d, 2), 0);
            Check.due("others are not", x.count(6), 0);
        }
    }

    private static void barBad() {
        Sentence.of(10, "BAD.");
        Twins.allRefused(House::furnished, BAD, "bar(.., true)", (x, d) -> x.bar(d, true), LEAST, -1, 5, 9, 10, 32, MOST);
        Twins.allRefused(House::furnished, BAD, "bar(.., false)", (x, d) -> x.bar(d, false), -1, 5, 34);
        Check.due("no doors", new ThreadMoved().bar(0, true), BAD);
    }

    private static void period() {
        Sentence.of(11, "PERIOD becomes v: what it was.");
        ThreadMoved x = new ThreadMoved();
        int was = 1;
        for (int v : new int[] {6, 1, 1, 5}) {
            Check.due("period(" + v + ")", x.period(v), was);
            Check.due("rule(2)", x.rule(2), v);
            was = v;
        }
        x = Check.told("rooms 7;door 0 0;turn 0 1;period 6;");
        x.go(10);
        x.period(2);
        x.go(10);
        Check.due("2 divides step 2", x.door(0, 1), 1);
        x.period(1);
        x.go(10);
        Check.due("1 divides step 3", x.door(0, 1), 2);
        x.period(6);
        x.go(10);
        Check.due("6 does not divide step 4", x.door(0, 1), 2);
    }

    private static void periodBad() {
        Sentence.of(11, "BAD.");
        Twins.allRefused(House::furnished, BAD, "period", ThreadMoved::period, LEAST, -1, 0, 7, MOST);
    }

    private static void put() {
        Sentence.of(12, "HE is in a ROOM (not EATEN, if he was): where he was.");
        ThreadMoved x = Check.told("rooms 7;");
        Check.due("to the last room", x.put(6), 0);
        Check.due("to the same", x.put(6), 6);
        Check.due("to 0", x.put(0), 6);
        Check.due("rule(6)", x.rule(6), 0);
        Check.due("no step", x.rule(5), 0);
        x = House.eaten();
        Check.due("he was eaten", x.put(2), 1);
        Check.due("not any more", x.rule(9), 0);
        Check.due("his string stays", x.count(0), 1);
        Check.due("he goes on", x.go(10), 2);
        x = House.eaten();
        x.lurk(2, 0);
        Check.due("the beast has gone: to where he was eaten", x.put(1), 1);
        Check.due("not any more", x.rule(9), 0);
    }

    private static void putBad() {
        Sentence.of(12, "BAD;");
        Twins.allRefused(House::furnished, BAD, "put", ThreadMoved::put, LEAST, NONE, -1, 5, 6, 7, MOST);
        Twins.allRefused(House::eaten, BAD, "put", ThreadMoved::put, -1, 3);
        Check.due("NONE is no room, though there is no beast", new ThreadMoved().put(NONE), BAD);
    }

    private static void putState() {
        Sentence.of(12, "STATE: THE BEAST is there.");
        Twins.refused(House::furnished, STATE, "put(4)", x -> x.put(4));
        Twins.refused(House::eaten, STATE, "put(1), eaten there", x -> x.put(1));
        ThreadMoved x = Check.told("in 1;beast 0 left;");
        Check.due("in room 0", x.put(0), STATE);
        x.lurk(NONE, 0);
        Check.due("there is none", x.put(0), 1);
    }

    private static void lurk() {
        Sentence.of(13, "THE BEAST is in a ROOM (NONE: there is none), with a HABIT: where it was.");
        ThreadMoved x = Check.told("rooms 7;in 3;");
        Check.due("there was none", x.lurk(6, 3), NONE);
        Check.due("rule(7)", x.rule(7), 6);
        Check.due("rule(8)", x.rule(8), 3);
        Check.due("another habit", x.lurk(6, 0), 6);
        Check.due("rule(8)", x.rule(8), 0);
        Check.due("to room 0", x.lurk(0, 1), 6);
        Check.due("rule(7)", x.rule(7), 0);
        x = House.eaten();
        Check.due("from where he is eaten", x.lurk(0, 2), 1);
        Check.due("he is eaten all the same", x.rule(9), 1);
    }

    private static void lurkNone() {
        Sentence.of(13, "THE BEAST is in a ROOM (NONE: there is none), with a HABIT: where it was.");
        ThreadMoved x = House.furnished();
        Check.due("none", x.lurk(NONE, 2), 4);
        Check.due("rule(7)", x.rule(7), NONE);
        Check.due("rule(8)", x.rule(8), 2);
        Check.due("none again", x.lurk(NONE, 0), NONE);
        Check.due("he is safe", x.put(4), 0);
        Check.due("wall(0)", x.wall(0), STATE);
        Check.due("there is one again", x.lurk(0, 3), NONE);
    }

    private static void lurkBad() {
        Sentence.of(13, "BAD;");
        Twins.allRefused(House::furnished, BAD, "lurk(.., 1)", (x, r) -> x.lurk(r, 1), LEAST, -5, -3, -2, -1, 5, 6, 7, MOST);
        Twins.allRefused(House::furnished, BAD, "lurk(2, ..)", (x, h) -> x.lurk(2, h), LEAST, NONE, -1, 4, MOST);
        Twins.allRefused(House::furnished, BAD, "lurk(NONE, ..)", (x, h) -> x.lurk(NONE, h), -1, 4);
        Twins.allRefused(House::furnished, BAD, "lurk(his, ..)", (x, h) -> x.lurk(x.rule(6), h), -1, 4);
    }

    private static void lurkState() {
        Sentence.of(13, "STATE: HE is there.");
        Twins.allRefused(House::furnished, STATE, "lurk(0, ..)", (x, h) -> x.lurk(0, h), 0, 1, 2, 3);
        Twins.refused(House::eaten, STATE, "lurk(1, 2), he is eaten there", x -> x.lurk(1, 2));
        Twins.refused(ThreadMoved::new, STATE, "lurk(0, 0)", x -> x.lurk(0, 0));
    }

    private static ThreadMoved withFullString() {
        ThreadMoved x = Check.told("door 0 1;door 1 0;");
        for (int i = 0; i < 13; i++) {
            x.go(i % 2);
        }
        return x;
    }

    private static void bite() {
        Sentence.of(14, "His STRING keeps its first n DOORS: how many it had.");
        Check.due("none of none", new ThreadMoved().bite(0), 0);
        ThreadMoved x = withFullString();
        Check.due("all of 12", x.bite(12), 12);
        Check.due("11", x.bite(11), 12);
        Check.due("the last is gone", x.thread(11), NONE);
        Check.due("those ahead stay", x.thread(10), 0);
        Check.due("one", x.bite(1), 11);
        Check.due("the first", x.thread(0), 0);
        Check.due("none", x.bite(0), 1);
        Check.due("thread(0)", x.thread(0), NONE);
        Check.due("it is as long as it was", x.rule(4), 12);
    }

    private static void biteBad() {
        Sentence.of(14, "BAD.");
        Twins.allRefused(House::furnished, BAD, "bite", ThreadMoved::bite, LEAST, -1, 3, 5, 12, MOST);
        Twins.allRefused(BoundaryChanges::withFullString, BAD, "bite", ThreadMoved::bite, -1, 13);
        Check.due("one of none", new ThreadMoved().bite(1), BAD);
    }
}
