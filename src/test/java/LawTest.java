/** Promises 22 to 25: what was seen, the laws that fit, what is sure by all of them. */
public final class LawTest {
    private static final String THREE = "rooms 4;door 0 0;door 1 1;door 2 3;";

    public static void main(String[] args) {
        see();
        forget();
        allLaws();
        fitting();
        sure();
        asTheyAreNow();
        Check.finish();
    }

    private static void see() {
        ThreadMoved x = Check.told(THREE);
        Check.due("see(0, 0, 0)", x.see(0, 0, 0), -1);
        Check.due("see(7, 0, 0)", x.see(7, 0, 0), -1);
        Check.due("see(1, 3, 0)", x.see(1, 3, 0), -1);
        Check.due("see(1, -1, 0)", x.see(1, -1, 0), -1);
        Check.due("see(1, 0, 4)", x.see(1, 0, 4), -1);
        Check.due("see(1, 0, -1)", x.see(1, 0, -1), -1);
        for (int i = 1; i <= 6; i++) {
            Check.due("see " + i, x.see(i, 2, 3), i);
        }
        Check.due("see, full", x.see(1, 0, 0), -3);
        Check.due("see, full, no such door", x.see(1, 3, 0), -1);
        Check.due("count(1)", x.count(1), 6);
    }

    private static void forget() {
        ThreadMoved x = Check.told(THREE);
        Check.due("forget(0) of none", x.forget(0), 0);
        Check.due("forget(1) of none", x.forget(1), -1);
        x.see(1, 0, 1);
        x.see(1, 1, 2);
        Check.due("none fits", x.laws(0), 0);
        Check.due("forget(-1)", x.forget(-1), -1);
        Check.due("forget(3)", x.forget(3), -1);
        Check.due("forget(2)", x.forget(2), 2);
        Check.due("forget(1)", x.forget(1), 2);
        Check.due("swap 0 1, turn 0 1", x.laws(0), 2);
        Check.due("count(1)", x.count(1), 1);
    }

    private static void allLaws() {
        ThreadMoved x = Check.told(THREE);
        Check.due("laws(0)", x.laws(0), 3 + 9 + 3);
        Check.due("laws(1)", x.laws(1), 1);
        Check.due("laws(2)", x.laws(2), 202);
        Check.due("laws(3)", x.laws(3), -1);
        Check.due("laws(-1)", x.laws(-1), -1);
        x = Check.told("rooms 7;" + "door 0 1;".repeat(10));
        Check.due("laws(0)", x.laws(0), 45 + 60 + 10);
        Check.due("laws(2)", x.laws(2), 209);
        x = Check.told("door 0 1;");
        Check.due("laws(0): turn 0 1, bar 0", x.laws(0), 2);
        Check.due("laws(1)", x.laws(1), 101);
        x = new ThreadMoved();
        Check.due("laws(0) of no doors", x.laws(0), 0);
        Check.due("laws(1) of no doors", x.laws(1), -4);
        Check.due("laws(2) of no doors", x.laws(2), -4);
    }

    private static void fitting() {
        ThreadMoved x = Check.told(THREE);
        x.see(1, 0, 3);
        Check.due("swap 0 2, turn 0 3", x.laws(0), 2);
        Check.due("least", x.laws(1), 2);
        Check.due("greatest", x.laws(2), 103);
        x.see(2, 0, 2);
        Check.due("turn 0 3", x.laws(0), 1);
        Check.due("least", x.laws(1), 103);
        x.see(6, 0, 2);
        Check.due("six turns of 3 are 18, 2 modulo 4", x.laws(0), 1);
        x.see(6, 1, 0);
        Check.due("none", x.laws(0), 0);
        Check.due("least of none", x.laws(1), -4);
        Check.due("greatest of none", x.laws(2), -4);
        Check.due("sure of none", x.sure(1, 0), -4);
    }

    private static void sure() {
        ThreadMoved x = Check.told(THREE);
        Check.due("sure(0, 0)", x.sure(0, 0), -1);
        Check.due("sure(7, 0)", x.sure(7, 0), -1);
        Check.due("sure(1, 3)", x.sure(1, 3), -1);
        Check.due("sure(1, -1)", x.sure(1, -1), -1);
        Check.due("sure(1, 0): not one by all", x.sure(1, 0), -4);
        x.see(1, 0, 3);
        Check.due("sure(1, 0)", x.sure(1, 0), 3);
        Check.due("sure(2, 0): 0 or 2", x.sure(2, 0), -4);
        Check.due("sure(1, 1)", x.sure(1, 1), 1);
        Check.due("sure(1, 2): 0 or 3", x.sure(1, 2), -4);
        Check.due("sure(2, 2)", x.sure(2, 2), 3);
        x.see(2, 0, 0);
        Check.due("sure(1, 2): swap alone", x.sure(1, 2), 0);
        Check.due("sure(6, 0)", x.sure(6, 0), 0);
        Check.due("sure(5, 0)", x.sure(5, 0), 3);
    }

    private static void asTheyAreNow() {
        ThreadMoved x = Check.told("rooms 4;door 0 0 barred;door 1 1;turn 0 1;bar 1;");
        x.see(1, 0, 1);
        Check.due("swap 0 1, turn 0 1; its rules do not matter", x.laws(0), 2);
        x.go(10);
        Check.due("door(0, 1)", x.door(0, 1), 1);
        Check.due("from now on: all that leave it, and swap 0 1", x.laws(0), 1 + 3 + 2);
        Check.due("least", x.laws(1), 1);
    }
}
