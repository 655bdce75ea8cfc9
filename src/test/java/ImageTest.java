/** Promises 31 and 32: images. */
public final class ImageTest {
    public static void main(String[] args) {
        wrong();
        allIsBack();
        two();
        eaten();
        Check.finish();
    }

    private static void wrong() {
        ThreadMoved x = new ThreadMoved();
        Check.due("keep(-1)", x.keep(-1), -1);
        Check.due("keep(2)", x.keep(2), -1);
        Check.due("back(-1)", x.back(-1), -1);
        Check.due("back(2)", x.back(2), -1);
        Check.due("back(0)", x.back(0), -2);
        Check.due("back(1)", x.back(1), -2);
        Check.due("count(3)", x.count(3), 0);
    }

    private static void allIsBack() {
        ThreadMoved x = Check.told("rooms 4;door 0 1;door 1 2 barred;turn 0 1;bar 1;period 2;beast 3 turns;");
        x.go(0);
        x.see(1, 0, 0);
        Check.due("keep(0)", x.keep(0), 0);
        x.go(0);
        x.see(2, 0, 0);
        x.hear(1, 0, true);
        x.period(5);
        x.lurk(2, 1);
        x.put(3);
        x.bite(0);
        x.go(10);
        Check.due("back(0): step", x.back(0), 1);
        int[] due = {4, 2, 2, 2, 12, 1, 1, 3, 3, 0};
        for (int i = 0; i < due.length; i++) {
            Check.due("rule(" + i + ")", x.rule(i), due[i]);
        }
        Check.due("door(0, 1)", x.door(0, 1), 1);
        Check.due("door(1, 2)", x.door(1, 2), 1);
        Check.due("count(0)", x.count(0), 1);
        Check.due("thread(0)", x.thread(0), 0);
        Check.due("what is seen stays", x.count(1), 2);
        Check.due("what is heard stays", x.count(2), 1);
        x.go(0);
        Check.due("back(0) a second time", x.back(0), 1);
        Check.due("keep(0) again", x.keep(0), 1);
        Check.due("count(3)", x.count(3), 1);
    }

    private static void two() {
        ThreadMoved x = Check.told("door 0 1;door 1 0;");
        Check.due("keep(1)", x.keep(1), 0);
        x.go(0);
        Check.due("keep(0)", x.keep(0), 0);
        Check.due("count(3)", x.count(3), 2);
        x.go(1);
        Check.due("back(1)", x.back(1), 0);
        Check.due("rule(6)", x.rule(6), 0);
        Check.due("count(0)", x.count(0), 0);
        x.go(1);
        Check.due("back(0)", x.back(0), 1);
        Check.due("thread(0)", x.thread(0), 0);
        x.go(10);
        x.go(10);
        Check.due("keep(1) anew", x.keep(1), 1);
        x.back(0);
        Check.due("back(1)", x.back(1), 3);
    }

    private static void eaten() {
        ThreadMoved x = Check.told("door 0 1;beast 1 left;");
        x.keep(0);
        x.go(10);
        x.keep(1);
        x.back(0);
        Check.due("not eaten", x.rule(9), 0);
        Check.due("the beast", x.rule(7), 1);
        x.back(1);
        Check.due("eaten", x.rule(9), 1);
        Check.due("the beast", x.rule(7), 0);
        Check.due("go(10)", x.go(10), -2);
    }
}
