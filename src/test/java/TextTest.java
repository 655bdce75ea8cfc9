/** Promises 2 to 5: the tape, the text, its faults. */
public final class TextTest {
    public static void main(String[] args) {
        tape();
        takenTexts();
        tokens();
        misplaced();
        bounds();
        twice();
        tooMany();
        behindAll();
        firstMet();
        cutOff();
        wholeTape();
        refusedChangesNothing();
        tellsAll();
        Check.finish();
    }

    private static void tape() {
        ThreadMoved x = new ThreadMoved();
        for (int i = 1; i <= 40; i++) {
            Check.due("feed " + i, x.feed(0x2020202020202020L), 8 * i);
        }
        Check.due("feed of a full tape", x.feed(0), ThreadMoved.FULL);
        Check.due("count(4)", x.count(4), 320);
        Check.due("end(-1)", x.end(-1), ThreadMoved.BAD);
        Check.due("end(321)", x.end(321), ThreadMoved.BAD);
        Check.due("end(320)", x.end(320), 320);
        Check.due("end(313)", x.end(313), 320);
        Check.due("feed of 313", x.feed(0), ThreadMoved.FULL);
        Check.due("end(312)", x.end(312), 313);
        Check.due("feed of 312", x.feed(0), 320);
        Check.due("end(0)", x.end(0), 320);
        Check.due("end(0) again", x.end(0), 0);
        Check.due("end(1) of none", x.end(1), ThreadMoved.BAD);
        Check.due("feed, the highest byte first", x.feed(0x696e20313b202020L), 8);
        Check.due("text", x.text(), 1);
        Check.due("rule(6)", x.rule(6), 1);
        Check.due("the tape is empty behind a text", x.count(4), 0);
        x.feed(0x2121212121212121L);
        Check.due("text of !", x.text(), -10);
        Check.due("the tape is empty behind a fault", x.count(4), 0);
    }

    private static void takenTexts() {
        Check.due("fault of a new object", new ThreadMoved().fault(), 0);
        Check.taken("", 0);
        Check.taken("    ", 0);
        Check.taken("rooms 2;", 1);
        Check.taken("rooms 7;", 1);
        Check.taken("rooms07;", 1);
        Check.taken("  rooms   7  ;  in6;", 2);
        Check.taken("door 0 1barred;door 1 1 barred ;", 2);
        Check.taken("bar 0;swap 1 0;turn 1 6;door 0 0;door 1 1;", 5);
        Check.taken("in 1;beast 0 sleeps;period 6;string 12;", 4);
        Check.taken("string 0;period 1;", 2);
        Check.taken("beast 1hungry;", 1);
        Check.taken("rooms 7;in 5;beast 6 left;", 3);
        Check.taken("door 0 1;".repeat(10) + "bar 9;".repeat(6), 16);
    }

    private static void tokens() {
        Check.faulty("!", 1, 0);
        Check.faulty("rooms 3;\n", 1, 8);
        Check.faulty("rooms 3;Rooms 3;", 1, 8);
        Check.faulty("rooms\t3;", 1, 5);
        Check.faulty("rooms 003;", 1, 6);
        Check.faulty("rooms 1234567890123;", 1, 6);
        Check.faulty("rooms -3;", 1, 6);
        Check.faulty("\u00e9", 1, 0);
        Check.faulty("in 1,", 1, 4);
        Check.faulty("in\0001;", 1, 2);
        Check.faulty("123", 1, 0);
        Check.faulty("`", 1, 0);
        Check.faulty("{", 1, 0);
        Check.faulty("in /;", 1, 3);
        Check.faulty("in :;", 1, 3);
    }

    private static void misplaced() {
        Check.faulty(";", 2, 0);
        Check.faulty("12", 2, 0);
        Check.faulty("  room 3;", 2, 2);
        Check.faulty("roomss 3;", 2, 0);
        Check.faulty("looms 3;", 2, 0);
        Check.faulty("moor 0 1;", 2, 0);
        Check.faulty("rooms z;", 2, 6);
        Check.faulty("az;", 2, 0);
        Check.faulty("barred;", 2, 0);
        Check.faulty("sleeps;", 2, 0);
        Check.faulty("rooms;", 2, 5);
        Check.faulty("rooms", 2, 5);
        Check.faulty("rooms  ", 2, 7);
        Check.faulty("rooms 3", 2, 7);
        Check.faulty("rooms 3  ", 2, 9);
        Check.faulty("rooms 3 3;", 2, 8);
        Check.faulty("rooms 3 rooms 3;", 2, 8);
        Check.faulty("rooms 3;;", 2, 8);
        Check.faulty("door 0;", 2, 6);
        Check.faulty("door 0 1 0;", 2, 9);
        Check.faulty("door 0 1 barre;", 2, 9);
        Check.faulty("door 0 1 barred barred;", 2, 16);
        Check.faulty("door 0 1 barred", 2, 15);
        Check.faulty("door barred 0 1;", 2, 5);
        Check.faulty("in 1 barred;", 2, 5);
        Check.faulty("beast 1;", 2, 7);
        Check.faulty("beast 1 barred;", 2, 8);
        Check.faulty("beast 1 2;", 2, 8);
        Check.faulty("beast left 1;", 2, 6);
        Check.faulty("beast 1", 2, 7);
        Check.faulty("beast 1 lef;", 2, 8);
        Check.faulty("swap 0;", 2, 6);
        Check.faulty("swap 0 1 2;", 2, 9);
        Check.faulty("turn 0;", 2, 6);
        Check.faulty("bar;", 2, 3);
        Check.faulty("bar 0 1;", 2, 6);
        Check.faulty("string x;", 2, 7);
        Check.faulty("period;", 2, 6);
        Check.faulty("in;", 2, 2);
    }

    private static void bounds() {
        Check.faulty("rooms 1;", 3, 6);
        Check.faulty("rooms 8;", 3, 6);
        Check.faulty("door 7 0;", 3, 5);
        Check.faulty("door 0 7;", 3, 7);
        Check.faulty("period 0;", 3, 7);
        Check.faulty("period 7;", 3, 7);
        Check.faulty("swap 10 0;", 3, 5);
        Check.faulty("swap 0 10;", 3, 7);
        Check.faulty("turn 10 1;", 3, 5);
        Check.faulty("turn 0 0;", 3, 7);
        Check.faulty("turn 0 7;", 3, 7);
        Check.faulty("bar 10;", 3, 4);
        Check.faulty("in 7;", 3, 3);
        Check.faulty("beast 7 left;", 3, 6);
        Check.faulty("string 13;", 3, 7);
        Check.faulty("string 99;", 3, 7);
    }

    private static void twice() {
        Check.faulty("rooms 3; rooms 3;", 4, 9);
        Check.faulty("period 1;period 1;", 4, 9);
        Check.faulty("in 0;in 0;", 4, 5);
        Check.faulty("beast 1 left;beast 1 left;", 4, 13);
        Check.faulty("string 1;string 1;", 4, 9);
        Check.faulty("swap 0 0;", 4, 7);
        Check.faulty("swap 9 09;", 4, 7);
    }

    private static void tooMany() {
        String ten = "door 0 1;".repeat(10);
        Check.taken(ten, 10);
        Check.faulty(ten + "door 0 1;", 5, 90);
        Check.faulty("door 0 1;" + "bar 0;".repeat(6) + "swap 0 1;", 5, 45);
        Check.faulty("door 0 1;" + "bar 0;".repeat(6) + "turn 0 1;", 5, 45);
        Check.faulty("door 0 1;" + "bar 0;".repeat(6) + " bar 0;", 5, 46);
        Check.faulty("door 0 1;" + "turn 0 1;".repeat(6) + "bar 0;", 5, 63);
    }

    private static void behindAll() {
        Check.faulty("door 2 0; ", 6, 10);
        Check.faulty("door 0 2;", 6, 9);
        Check.faulty("rooms 6;door 0 6;", 6, 17);
        Check.taken("door 0 6;rooms 7;", 2);
        Check.faulty("in 2;", 6, 5);
        Check.faulty("beast 2 left;", 6, 13);
        Check.faulty("in 5;beast 5 left;", 6, 18);
        Check.faulty("bar 0;", 6, 6);
        Check.faulty("door 0 0;bar 1;", 6, 15);
        Check.faulty("door 0 0;turn 1 1;", 6, 18);
        Check.faulty("door 0 0;swap 0 1;", 6, 18);
        Check.faulty("door 0 0;swap 1 0;", 6, 18);
        Check.faulty("beast 0 left;", 7, 13);
        Check.faulty("in 1;beast 1 left;  ", 7, 20);
        Check.taken("beast 0 left;in 1;", 2);
    }

    /** A token is read when the one before has been taken: so no fault behind the first one counts. */
    private static void firstMet() {
        Check.faulty("rooms 8!", 3, 6);
        Check.faulty("rooms 3;rooms !", 4, 8);
        Check.faulty("rooms 3;rooms 9;", 4, 8);
        Check.faulty("swap 0 0!", 4, 7);
        Check.faulty("swap 0 0", 4, 7);
        Check.faulty("room 123;", 2, 0);
        Check.faulty("rooms 123 4", 1, 6);
        Check.faulty("in 9;in 9;", 3, 3);
        Check.faulty("in 5;beast 5 left", 2, 17);
        Check.faulty("door 0 1;".repeat(10) + "door !", 5, 90);
    }

    /** What end() has cut off is not read, though it was on the tape. */
    private static void cutOff() {
        ThreadMoved x = new ThreadMoved();
        Check.lay(x, "in 12;");
        Check.due("end(4)", x.end(4), 6);
        Check.due("in 1", x.text(), -14);
        Check.due("fault()", x.fault(), 2);
        Check.lay(x, "in 1;insects");
        Check.due("end(7)", x.end(7), 12);
        Check.due("in 1;in", x.text(), -15);
        Check.due("fault()", x.fault(), 4);
        Check.lay(x, "roomsx");
        Check.due("end(5)", x.end(5), 6);
        Check.due("rooms", x.text(), -15);
        Check.due("fault()", x.fault(), 2);
        Check.lay(x, "in 1;;");
        Check.due("end(5)", x.end(5), 6);
        Check.due("in 1; behind faults", x.text(), 1);
        Check.due("fault()", x.fault(), 0);
    }

    private static void wholeTape() {
        String blanks = " ".repeat(315);
        Check.taken(blanks + "in 1;", 1);
        Check.faulty(blanks + "in  1", 2, 320);
        Check.faulty(blanks + "in 12", 3, 318);
        Check.faulty(blanks + "rooms", 2, 320);
        Check.faulty(blanks + "in123", 1, 317);
        Check.faulty(blanks + "    !", 1, 319);
        Check.taken(" ".repeat(320), 0);
    }

    private static void refusedChangesNothing() {
        ThreadMoved x = Check.told("rooms 4;door 0 1;door 1 2 barred;bar 0;in 1;beast 3 turns;period 4;string 5;");
        x.go(0);
        x.see(1, 0, 1);
        x.hear(1, 2, false);
        x.keep(1);
        Check.due("a text that is refused", Check.tell(x, "rooms 2;door 0 0;in 1;in 1;"), -32);
        Check.due("its fault", x.fault(), 4);
        int[] due = {4, 2, 4, 1, 5, 1, 0, 3, 3, 0};
        for (int i = 0; i < due.length; i++) {
            Check.due("rule(" + i + ")", x.rule(i), due[i]);
        }
        Check.due("door(0, 0)", x.door(0, 0), 0);
        Check.due("door(1, 1)", x.door(1, 1), 2);
        Check.due("door(1, 2)", x.door(1, 2), 1);
        Check.due("law(0)", x.law(0), 200);
        Check.due("count(0)", x.count(0), 1);
        Check.due("count(1)", x.count(1), 1);
        Check.due("count(2)", x.count(2), 1);
        Check.due("count(3)", x.count(3), 1);
    }

    private static void tellsAll() {
        ThreadMoved x = Check.told("rooms 4;door 0 1;door 1 2 barred;bar 0;in 1;beast 3 hungry;period 4;string 5;");
        x.go(0);
        x.see(1, 0, 1);
        x.hear(1, 2, false);
        x.keep(0);
        x.sheet(0, 0, 7);
        x.read(0, 1, 0, 1);
        Check.due("an empty text", Check.tell(x, ""), 0);
        int[] due = {2, 0, 1, 0, 12, 0, 0, -4, 0, 0};
        for (int i = 0; i < due.length; i++) {
            Check.due("rule(" + i + ") behind it", x.rule(i), due[i]);
        }
        int[] counts = {0, 0, 0, 0, 0, 7, 0};
        for (int i = 0; i < counts.length; i++) {
            Check.due("count(" + i + ") behind it", x.count(i), counts[i]);
        }
        Check.due("back(0) behind it", x.back(0), ThreadMoved.STATE);
        Check.due("torn() behind it", x.torn(), 3);
        Check.due("fault() behind it", x.fault(), 0);
        Check.due("eaten", Check.tell(x, "door 0 1;beast 1 hungry;"), 2);
        Check.due("go(10)", x.go(10), 10);
        Check.due("a text", Check.tell(x, "in 1;"), 1);
        Check.due("rule(9): not eaten", x.rule(9), 0);
    }
}
