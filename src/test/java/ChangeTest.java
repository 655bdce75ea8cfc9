/** Promises 10 to 14: what is changed. */
public final class ChangeTest {
    public static void main(String[] args) {
        bar();
        period();
        put();
        lurk();
        bite();
        Check.finish();
    }

    private static void bar() {
        ThreadMoved x = Check.told("door 0 1;door 0 1 barred;");
        Check.due("bar(0, false)", x.bar(0, false), 0);
        Check.due("bar(0, true)", x.bar(0, true), 0);
        Check.due("bar(0, true) again", x.bar(0, true), 1);
        Check.due("door(0, 2)", x.door(0, 2), 1);
        Check.due("doors(0)", x.doors(0), 0);
        Check.due("bar(1, false)", x.bar(1, false), 1);
        Check.due("door(1, 2)", x.door(1, 2), 0);
        Check.due("doors(0)", x.doors(0), 2);
        Check.due("bar(2, true)", x.bar(2, true), -1);
        Check.due("bar(-1, true)", x.bar(-1, true), -1);
        Check.due("count(6)", x.count(6), 1);
    }

    private static void period() {
        ThreadMoved x = Check.told("door 0 1;bar 0;period 3;");
        Check.due("period(0)", x.period(0), -1);
        Check.due("period(7)", x.period(7), -1);
        Check.due("period(6)", x.period(6), 3);
        Check.due("period(1)", x.period(1), 6);
        Check.due("rule(2)", x.rule(2), 1);
        x.go(10);
        Check.due("it is dusk at once", x.door(0, 2), 1);
        Check.due("period(2)", x.period(2), 1);
        x.go(10);
        Check.due("2 divides 2", x.door(0, 2), 0);
        x.go(10);
        Check.due("2 does not divide 3", x.door(0, 2), 0);
    }

    private static void put() {
        ThreadMoved x = Check.told("rooms 3;door 0 1;door 1 2;beast 2 sleeps;");
        x.go(0);
        Check.due("put(3)", x.put(3), -1);
        Check.due("put(-1)", x.put(-1), -1);
        Check.due("put(-4)", x.put(-4), -1);
        Check.due("put(2)", x.put(2), -2);
        Check.due("put(1)", x.put(1), 1);
        Check.due("put(0)", x.put(0), 1);
        Check.due("rule(6)", x.rule(6), 0);
        Check.due("his string stays", x.count(0), 1);
        Check.due("so does step", x.rule(5), 1);
        x.put(1);
        Check.due("go(1)", x.go(1), 12);
        Check.due("put(2) to where he is eaten", x.put(2), -2);
        Check.due("rule(9)", x.rule(9), 1);
        Check.due("put(1)", x.put(1), 2);
        Check.due("rule(9)", x.rule(9), 0);
    }

    private static void lurk() {
        ThreadMoved x = Check.told("rooms 3;in 1;");
        Check.due("lurk(0, 3)", x.lurk(0, 3), -4);
        Check.due("rule(7)", x.rule(7), 0);
        Check.due("rule(8)", x.rule(8), 3);
        Check.due("lurk(1, 0)", x.lurk(1, 0), -2);
        Check.due("lurk(1, 4)", x.lurk(1, 4), -1);
        Check.due("lurk(3, 0)", x.lurk(3, 0), -1);
        Check.due("lurk(-1, 0)", x.lurk(-1, 0), -1);
        Check.due("lurk(-5, 0)", x.lurk(-5, 0), -1);
        Check.due("lurk(2, 4)", x.lurk(2, 4), -1);
        Check.due("lurk(2, -1)", x.lurk(2, -1), -1);
        Check.due("lurk(-4, 4)", x.lurk(-4, 4), -1);
        Check.due("rule(7)", x.rule(7), 0);
        Check.due("rule(8)", x.rule(8), 3);
        Check.due("lurk(2, 1)", x.lurk(2, 1), 0);
        Check.due("lurk(-4, 2)", x.lurk(-4, 2), 2);
        Check.due("rule(7)", x.rule(7), -4);
        Check.due("rule(8)", x.rule(8), 2);
        Check.due("lurk(-4, 0)", x.lurk(-4, 0), -4);
    }

    private static void bite() {
        ThreadMoved x = Check.told("door 0 1;door 1 0;");
        x.go(0);
        x.go(1);
        x.go(0);
        Check.due("bite(4)", x.bite(4), -1);
        Check.due("bite(-1)", x.bite(-1), -1);
        Check.due("bite(3)", x.bite(3), 3);
        Check.due("bite(2)", x.bite(2), 3);
        Check.due("thread(1)", x.thread(1), 1);
        Check.due("thread(2)", x.thread(2), -4);
        Check.due("bite(0)", x.bite(0), 2);
        Check.due("bite(0) again", x.bite(0), 0);
        x.go(1);
        Check.due("thread(0)", x.thread(0), 1);
    }
}
