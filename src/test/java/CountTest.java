/** Promise 37: how many there are. */
public final class CountTest {
    public static void main(String[] args) {
        ThreadMoved x = Check.told("rooms 3;door 0 1;door 1 2 barred;door 2 2 barred;door 2 0 barred;bar 3;period 2;");
        Check.due("count(-1)", x.count(-1), -1);
        Check.due("count(7)", x.count(7), -1);
        all(x, 0, 0, 0, 0, 0, -4, 3);
        x.go(0);
        all(x, 1, 0, 0, 0, 0, -4, 3);
        x.see(1, 1, 1);
        x.see(2, 1, 1);
        all(x, 1, 2, 0, 0, 0, -4, 3);
        x.hear(1, 1, true);
        x.hear(2, 1, true);
        x.hear(3, 1, true);
        all(x, 1, 2, 3, 0, 0, -4, 3);
        x.keep(1);
        all(x, 1, 2, 3, 1, 0, -4, 3);
        x.feed(0);
        x.end(5);
        all(x, 1, 2, 3, 1, 5, -4, 3);
        x.sheet(1, 0, 9);
        all(x, 1, 2, 3, 1, 5, -4, 3);
        x.sheet(0, 0, 8);
        all(x, 1, 2, 3, 1, 5, 8, 3);
        x.go(0);
        all(x, 2, 2, 3, 1, 5, 8, 2);
        x.bar(1, false);
        x.keep(0);
        x.keep(0);
        all(x, 2, 2, 3, 2, 5, 8, 1);
        Check.finish();
    }

    private static void all(ThreadMoved x, int... due) {
        for (int i = 0; i < due.length; i++) {
            Check.due("count(" + i + ")", x.count(i), due[i]);
        }
    }
}
