/** Promises 31, 32 and 37: images, and how many there are. */
final class BoundaryImages {
    private static final int BAD = -1, STATE = -2, NONE = -4;
    private static final int LEAST = Integer.MIN_VALUE, MOST = Integer.MAX_VALUE;

    private BoundaryImages() {
    }

    static void all() {
        keepHolds();
        keepAnswers();
        keepBad();
        back();
        backBad();
        backState();
        countString();
        countSeen();
        countHeard();
        countImages();
        countTape();
        countCells();
        countBarred();
        countBad();
    }

    private static void keepHolds() {
        Sentence.of(31, "IMAGE k (0, 1) is DOORS, PERIOD, HIS ROOM, THE BEAST, what is on his STRING, STEP, whether he is EATEN:");
        for (int k = 0; k < 2; k++) {
            ThreadMoved x = Check.told("rooms 4;door 0 1;door 1 2 barred;turn 0 1;bar 1;period 2;beast 3 turns;string 3;");
            x.go(0);
            x.keep(k);
            x.go(10);
            x.period(6);
            x.lurk(2, 1);
            x.bite(0);
            Check.due("another door is on his string, he is eaten", x.go(1), 12);
            Check.due("back(" + k + ")", x.back(k), 1);
            int[] due = {4, 2, 2, 2, 3, 1, 1, 3, 3, 0};
            for (int i = 0; i < due.length; i++) {
                Check.due("rule(" + i + ")", x.rule(i), due[i]);
            }
            Check.due("door(0, 1)", x.door(0, 1), 1);
            Check.due("door(1, 2)", x.door(1, 2), 1);
            Check.due("thread(0)", x.thread(0), 0);
            Check.due("count(0)", x.count(0), 1);
        }
        ThreadMoved x = House.eaten();
        x.keep(0);
        x.put(2);
        x.back(0);
        Check.due("eaten", x.rule(9), 1);
        Check.due("image 1 was taken ahead of that", x.back(1), 0);
        Check.due("not eaten", x.rule(9), 0);
    }

    private static void keepAnswers() {
        Sentence.of(31, "whether there was one (1, 0).");
        ThreadMoved x = new ThreadMoved();
        for (int k = 1; k >= 0; k--) {
            Check.due("keep(" + k + ")", x.keep(k), 0);
            Check.due("keep(" + k + ") again", x.keep(k), 1);
        }
        x.text();
        Check.due("keep(0) behind a text", x.keep(0), 0);
        Check.due("keep(1) behind a text", x.keep(1), 0);
    }

    private static void keepBad() {
        Sentence.of(31, "BAD.");
        Twins.allRefused(House::furnished, BAD, "keep", ThreadMoved::keep, LEAST, -1, 2, 32, MOST);
    }

    private static void back() {
        Sentence.of(32, "All is as IMAGE k: STEP.");
        ThreadMoved x = Check.told("rooms 3;door 0 1;door 1 2;");
        Check.due("keep(0)", x.keep(0), 0);
        x.go(0);
        x.keep(1);
        x.go(1);
        x.see(1, 0, 1);
        x.hear(1, 0, true);
        Check.due("back(0)", x.back(0), 0);
        Check.due("his room", x.rule(6), 0);
        Check.due("back(1)", x.back(1), 1);
        Check.due("his room", x.rule(6), 1);
        Check.due("an image stays", x.back(1), 1);
        x.go(1);
        x.back(1);
        Check.due("it is not changed by steps behind it", x.rule(6), 1);
        Check.due("what is seen is no part of it", x.count(1), 1);
        Check.due("what is heard is no part of it", x.count(2), 1);
        Check.due("both images stay", x.count(3), 2);
    }

    private static void backBad() {
        Sentence.of(32, "BAD;");
        Twins.allRefused(House::furnished, BAD, "back", ThreadMoved::back, LEAST, -1, 2, 32, MOST);
        Twins.allRefused(ThreadMoved::new, BAD, "back, no images", ThreadMoved::back, -1, 2);
    }

    private static void backState() {
        Sentence.of(32, "STATE: there is none.");
        Twins.allRefused(ThreadMoved::new, STATE, "back", ThreadMoved::back, 0, 1);
        Twins.refused(House::furnished, STATE, "back(1)", x -> x.back(1));
        Twins.refused(House::eaten, STATE, "back(0)", x -> x.back(0));
    }

    private static void countString() {
        Sentence.of(37, "How many: 0 DOORS on his STRING,");
        ThreadMoved x = Check.told("door 0 0;");
        for (int i = 0; i <= 13; i++) {
            Check.due("behind " + i, x.count(0), Math.min(i, 12));
            x.go(0);
        }
        x.bite(0);
        Check.due("bitten off", x.count(0), 0);
    }

    private static void countSeen() {
        Sentence.of(37, "1 SEEN,");
        ThreadMoved x = Check.told("door 0 0;");
        for (int i = 0; i <= 7; i++) {
            Check.due("behind " + i, x.count(1), Math.min(i, 6));
            x.see(1, 0, 0);
        }
        x.forget(2);
        Check.due("forgotten", x.count(1), 2);
    }

    private static void countHeard() {
        Sentence.of(37, "2 HEARD,");
        ThreadMoved x = new ThreadMoved();
        for (int i = 0; i <= 7; i++) {
            Check.due("behind " + i, x.count(2), Math.min(i, 6));
            x.hear(1, 0, true);
        }
        x.hush(2);
        Check.due("hushed", x.count(2), 2);
    }

    private static void countImages() {
        Sentence.of(37, "3 IMAGES,");
        ThreadMoved x = new ThreadMoved();
        Check.due("none", x.count(3), 0);
        x.keep(1);
        Check.due("image 1", x.count(3), 1);
        x.keep(1);
        Check.due("image 1 again", x.count(3), 1);
        x.keep(0);
        Check.due("both", x.count(3), 2);
        x.back(0);
        Check.due("they stay", x.count(3), 2);
    }

    private static void countTape() {
        Sentence.of(37, "4 bytes on THE TAPE,");
        ThreadMoved x = new ThreadMoved();
        Check.due("none", x.count(4), 0);
        for (int i = 1; i <= 41; i++) {
            x.feed(0x2020202020202020L);
            Check.due("behind " + i, x.count(4), Math.min(8 * i, 320));
        }
        x.end(7);
        Check.due("cut off", x.count(4), 7);
        x.text();
        Check.due("told", x.count(4), 0);
    }

    private static void countCells() {
        Sentence.of(37, "5 CELLS of SHEET 0 (NONE: nothing),");
        ThreadMoved x = new ThreadMoved();
        Check.due("nothing", x.count(5), NONE);
        x.sheet(1, 0, 40);
        Check.due("sheet 1 does not count", x.count(5), NONE);
        x.sheet(0, 0, -1);
        Check.due("a size below 0", x.count(5), NONE);
        x.sheet(0, 2, 0);
        Check.due("no cells", x.count(5), 0);
        x.sheet(0, 1, 40);
        Check.due("40 cells", x.count(5), 40);
        x.sheet(0, 1, 41);
        Check.due("41 are refused", x.count(5), 40);
        x.text();
        Check.due("behind a text", x.count(5), 40);
    }

    private static void countBarred() {
        Sentence.of(37, "6 DOORS that are BARRED.");
        Check.due("no doors", new ThreadMoved().count(6), 0);
        ThreadMoved x = Check.told("door 0 1 barred;".repeat(10) + "bar 9;bar 0;");
        Check.due("all ten", x.count(6), 10);
        x.go(10);
        Check.due("two are opened at dusk", x.count(6), 8);
        x.bar(5, false);
        Check.due("one more", x.count(6), 7);
        x.bar(0, true);
        Check.due("barred again", x.count(6), 8);
    }

    private static void countBad() {
        Sentence.of(37, "BAD.");
        Twins.allRefused(House::furnished, BAD, "count", ThreadMoved::count, LEAST, -1, 7, MOST);
    }
}
