/** Promises 22 to 25: what was seen, laws that fit. */
final class BoundaryLaws {
    private static final int BAD = -1, FULL = -3, NONE = -4;
    private static final int LEAST = Integer.MIN_VALUE, MOST = Integer.MAX_VALUE;

    private BoundaryLaws() {
    }

    static void all() {
        see();
        seeBad();
        seeFull();
        forget();
        forgetBad();
        laws();
        lawsBad();
        lawsNone();
        sure();
        sureBad();
        sureNone();
    }

    private static void see() {
        Sentence.of(22, "SEEN: behind n DUSKS the second END of a DOOR is a ROOM: how many are.");
        ThreadMoved x = Check.told("rooms 7;" + "door 0 0;".repeat(10));
        Check.due("behind 1, of door 0, room 0", x.see(1, 0, 0), 1);
        Check.due("behind 6, of door 9, room 6", x.see(6, 9, 6), 2);
        Check.due("count(1)", x.count(1), 2);
        Check.due("turn 9 1", x.laws(1), 191);
        Check.due("turn 9 1 alone", x.laws(2), 191);
        x = Check.told("rooms 7;door 0 0;");
        Check.due("what is so", x.see(1, 0, 1), 1);
        Check.due("the same again", x.see(1, 0, 1), 2);
        Check.due("what is not so by that", x.see(1, 0, 2), 3);
        Check.due("no law fits", x.laws(0), 0);
    }

    private static void seeBad() {
        Sentence.of(22, "BAD;");
        Twins.allRefused(House::furnished, BAD, "see(.., 0, 0)", (x, n) -> x.see(n, 0, 0), LEAST, -1, 0, 7, MOST);
        Twins.allRefused(House::furnished, BAD, "see(1, .., 0)", (x, d) -> x.see(1, d, 0), LEAST, -1, 5, 10, MOST);
        Twins.allRefused(House::furnished, BAD, "see(1, 0, ..)", (x, r) -> x.see(1, 0, r), LEAST, NONE, -1, 5, 7, MOST);
        Twins.allRefused(House::full, BAD, "see(1, 0, ..), full", (x, r) -> x.see(1, 0, r), -1, 3);
        Check.due("no doors", new ThreadMoved().see(1, 0, 0), BAD);
    }

    private static void seeFull() {
        Sentence.of(22, "FULL.");
        Twins.refused(House::full, FULL, "see(1, 0, 1)", x -> x.see(1, 0, 1));
        Twins.refused(House::full, FULL, "see(6, 1, 0)", x -> x.see(6, 1, 0));
        ThreadMoved x = House.full();
        x.forget(5);
        Check.due("the sixth", x.see(1, 0, 1), 6);
        Check.due("a seventh", x.see(1, 0, 1), FULL);
        Check.due("count(1)", x.count(1), 6);
    }

    private static void forget() {
        Sentence.of(23, "SEEN are the first n alone: how many there were.");
        Check.due("none of none", new ThreadMoved().forget(0), 0);
        ThreadMoved x = House.full();
        Check.due("all six", x.forget(6), 6);
        Check.due("one", x.forget(1), 6);
        Check.due("count(1)", x.count(1), 1);
        Check.due("none", x.forget(0), 1);
        Check.due("count(1)", x.count(1), 0);
        x = Check.told("rooms 7;door 0 0;");
        x.see(1, 0, 3);
        x.see(1, 0, 4);
        x.forget(1);
        Check.due("the first stays: turn 0 3", x.laws(1), 103);
    }

    private static void forgetBad() {
        Sentence.of(23, "BAD.");
        Twins.allRefused(House::furnished, BAD, "forget", ThreadMoved::forget, LEAST, -1, 3, 6, MOST);
        Twins.allRefused(House::full, BAD, "forget", ThreadMoved::forget, -1, 7);
        Check.due("one of none", new ThreadMoved().forget(1), BAD);
    }

    private static void laws() {
        Sentence.of(24, "LAWS that FIT: how many (what 0), the least NUMBER (1), the greatest (2).");
        ThreadMoved x = Check.told("rooms 3;door 0 0;door 1 1;");
        Check.due("swap 0 1, two turns of each, two bars", x.laws(0), 7);
        Check.due("least", x.laws(1), 1);
        Check.due("greatest", x.laws(2), 201);
        x.see(1, 0, 1);
        Check.due("swap 0 1, turn 0 1", x.laws(0), 2);
        Check.due("least", x.laws(1), 1);
        Check.due("greatest", x.laws(2), 101);
        x.see(2, 0, 0);
        Check.due("swap 0 1", x.laws(0), 1);
        Check.due("least and greatest are one", x.laws(2), 1);
        x.see(6, 0, 1);
        Check.due("none", x.laws(0), 0);
        Check.due("no doors", new ThreadMoved().laws(0), 0);
        x = Check.told("rooms 7;" + "door 0 1;".repeat(10));
        Check.due("as many as there can be", x.laws(0), 115);
        Check.due("greatest", x.laws(2), 209);
    }

    private static void lawsBad() {
        Sentence.of(24, "BAD;");
        Twins.allRefused(House::furnished, BAD, "laws", ThreadMoved::laws, LEAST, -1, 3, MOST);
        Check.due("none fits", new ThreadMoved().laws(3), BAD);
    }

    /** Sights that no law makes true. */
    private static ThreadMoved lawless() {
        ThreadMoved x = Check.told("rooms 3;door 0 0;");
        x.see(1, 0, 1);
        x.see(1, 0, 2);
        return x;
    }

    private static void lawsNone() {
        Sentence.of(24, "NONE (1, 2): none.");
        Twins.allRefused(BoundaryLaws::lawless, NONE, "laws", ThreadMoved::laws, 1, 2);
        Check.due("how many", lawless().laws(0), 0);
        Check.due("no doors, least", new ThreadMoved().laws(1), NONE);
        Check.due("no doors, greatest", new ThreadMoved().laws(2), NONE);
    }

    private static void sure() {
        Sentence.of(25, "The second END of a DOOR behind n DUSKS (1 to 6) from now on, by all LAWS that FIT.");
        ThreadMoved x = Check.told("rooms 7;door 0 0;door 0 0;");
        x.see(1, 0, 6);
        Check.due("turn 0 6: behind 1", x.sure(1, 0), 6);
        Check.due("behind 2", x.sure(2, 0), 5);
        Check.due("behind 6", x.sure(6, 0), 1);
        Check.due("of the other", x.sure(6, 1), 0);
        x = Check.told("rooms 3;door 0 0;door 1 1;");
        x.see(1, 0, 1);
        Check.due("swap 0 1, turn 0 1: behind 1", x.sure(1, 0), 1);
        Check.due("1 comes back by the swap, stays by the turn", x.sure(2, 1), 1);
        Check.due("the house's own rules do not count", Check.told("door 0 0;door 0 0;turn 0 1;").sure(1, 0), NONE);
        x = Check.told("rooms 2;door 0 0;");
        Check.due("a turn and a bar: behind 2 dusks it is 0 by both", x.sure(2, 0), 0);
    }

    private static void sureBad() {
        Sentence.of(25, "BAD;");
        Twins.allRefused(House::furnished, BAD, "sure(.., 0)", (x, n) -> x.sure(n, 0), LEAST, -1, 0, 7, MOST);
        Twins.allRefused(House::furnished, BAD, "sure(1, ..)", (x, d) -> x.sure(1, d), LEAST, -1, 5, 10, MOST);
        Twins.allRefused(BoundaryLaws::lawless, BAD, "sure(.., 0), none fits", (x, n) -> x.sure(n, 0), 0, 7);
        Check.due("no doors", new ThreadMoved().sure(1, 0), BAD);
    }

    private static void sureNone() {
        Sentence.of(25, "NONE: not one by all, none FITS.");
        ThreadMoved x = Check.told("rooms 3;door 0 0;door 1 1;");
        Check.due("not one by all", x.sure(1, 0), NONE);
        Twins.allRefused(BoundaryLaws::lawless, NONE, "sure(.., 0)", (y, n) -> y.sure(n, 0), 1, 6);
        x.see(1, 0, 1);
        Check.due("0 by the swap, 1 by the turn", x.sure(1, 1), NONE);
        Check.due("0 by the swap, 2 by the turn", x.sure(2, 0), NONE);
    }
}
