/** Terms: the answers, and part 1 up to the habits. */
final class BoundaryTermsHouse {
    private static final int BAD = -1, STATE = -2, FULL = -3, NONE = -4;

    private BoundaryTermsHouse() {
    }

    static void all() {
        answers();
        badIsFirst();
        stateIsNext();
        refusedChangesNothing();
        rooms();
        doors();
        period();
        rules();
        him();
        beast();
        string();
        step();
        swap();
        turn();
        bar();
        leads();
        sleeps();
        left();
        hungry();
        turns();
        byNone();
    }

    private static void of(String words) {
        Sentence.of(Sentence.TERMS, words);
    }

    private static void answers() {
        of("Answers: BAD -1 (a number is not as told, there is no such ROOM, DOOR, RULE, IMAGE, SHEET), STATE -2 (as told), "
                + "FULL -3, NONE -4 (there is none)");
        Check.due("BAD", ThreadMoved.BAD, -1);
        Check.due("STATE", ThreadMoved.STATE, -2);
        Check.due("FULL", ThreadMoved.FULL, -3);
        Check.due("NONE", ThreadMoved.NONE, -4);
        ThreadMoved x = House.furnished();
        Check.due("a number", x.rule(10), -1);
        Check.due("no such room", x.doors(5), -1);
        Check.due("no such door", x.door(5, 0), -1);
        Check.due("no such rule", x.law(3), -1);
        Check.due("no such image", x.keep(2), -1);
        Check.due("no such sheet", x.lay(4, 0, 0), -1);
        Check.due("state", x.put(4), -2);
        Check.due("none", x.thread(5), -4);
        Check.due("full", House.full().feed(0), -3);
    }

    private static void badIsFirst() {
        of(", the first that fits;");
        ThreadMoved x = House.eaten();
        Check.due("BAD ahead of STATE: go(2)", x.go(2), BAD);
        Check.due("soonest(3, 0)", x.soonest(3, 0), BAD);
        Check.due("alive(25)", x.alive(25), BAD);
        Check.due("walk(1, 0, 0)", x.walk(1, 0, 0), BAD);
        Check.due("back(2)", x.back(2), BAD);
        Check.due("lurk(1, 4)", x.lurk(1, 4), BAD);
        Check.due("wall(2), no beast", new ThreadMoved().wall(2), BAD);
        x = House.full();
        Check.due("BAD ahead of FULL: see(7, 0, 0)", x.see(7, 0, 0), BAD);
        Check.due("hear(13, 0, true)", x.hear(13, 0, true), BAD);
        x = new ThreadMoved();
        Check.due("BAD ahead of NONE: laws(3)", x.laws(3), BAD);
        Check.due("thread(-1)", x.thread(-1), BAD);
        Check.due("leads(2)", x.leads(2), BAD);
        Check.due("sure(1, 0), no such door", x.sure(1, 0), BAD);
        Check.due("soonest(1, 34)", x.soonest(1, 34), BAD);
    }

    private static void stateIsNext() {
        of(", the first that fits;");
        ThreadMoved x = House.late();
        Check.due("BAD ahead of FULL: go(2)", x.go(2), BAD);
        Check.due("STATE ahead of FULL: go(1)", x.go(1), STATE);
        Check.due("FULL: go(0)", x.go(0), FULL);
        x = House.eaten();
        x.bar(0, true);
        x.bar(1, true);
        Check.due("STATE ahead of NONE: soonest(0, 0)", x.soonest(0, 0), STATE);
        x.put(0);
        Check.due("NONE: soonest(1, 0)", x.soonest(1, 0), NONE);
        Check.due("STATE: lurk(0, 0), he is there", x.lurk(0, 0), STATE);
        Check.due("BAD in a sheet ahead of its size: sheet(4, 0, -1)", x.sheet(4, 0, -1), BAD);
        Check.due("sheet(0, 3, -1)", x.sheet(0, 3, -1), BAD);
    }

    /** Every refused call has such a test by its own promise, too; here are the answers one by one. */
    private static void refusedChangesNothing() {
        of("what is refused changes nothing (but THE TAPE, as told).");
        Twins.refused(House::furnished, BAD, "put(5)", x -> x.put(5));
        Twins.refused(House::furnished, STATE, "put(4)", x -> x.put(4));
        Twins.refused(House::full, FULL, "see(1, 0, 1)", x -> x.see(1, 0, 1));
        Twins.refused(House::furnished, NONE, "soonest(4, 0)", x -> x.soonest(4, 0));
        Twins.refused(House::furnished, -14, "sheet(0, 0, -1)", x -> x.sheet(0, 0, -1));
        ThreadMoved x = House.furnished();
        Check.due("bytes on the tape", x.count(4), 5);
        Check.due("end(4)", x.end(4), 5);
        Check.due("a text that is refused", x.text(), -14);
        Check.due("the tape is empty, as told", x.count(4), 0);
    }

    private static void rooms() {
        of("ROOMS 0 on (2 to 7; 2 at first).");
        ThreadMoved x = new ThreadMoved();
        Check.due("at first", x.rule(0), 2);
        Check.due("room 0", x.doors(0), 0);
        Check.due("room 1", x.doors(1), 0);
        Check.due("room 2", x.doors(2), BAD);
        Check.due("two", Check.told("rooms 2;").rule(0), 2);
        x = Check.told("rooms 7;");
        Check.due("seven", x.rule(0), 7);
        Check.due("room 6", x.put(6), 0);
        Check.due("room 7", x.put(7), BAD);
        Check.faulty("rooms 0;", 3, 6);
        Check.faulty("rooms 1;", 3, 6);
        Check.faulty("rooms 8;", 3, 6);
        Check.faulty("rooms 99;", 3, 6);
    }

    private static void doors() {
        of("DOORS (10 at most), by order: a first END, a second END (ROOMS), BARRED or not.");
        StringBuilder text = new StringBuilder("rooms 7;");
        for (int d = 0; d < 10; d++) {
            text.append("door ").append(d % 7).append(' ').append((3 * d + 1) % 7).append(d % 3 == 0 ? " barred;" : ";");
        }
        ThreadMoved x = Check.told(text.toString());
        Check.due("ten", x.rule(1), 10);
        for (int d = 0; d < 10; d++) {
            Check.due("first end of " + d, x.door(d, 0), d % 7);
            Check.due("second end of " + d, x.door(d, 1), (3 * d + 1) % 7);
            Check.due("is " + d + " barred", x.door(d, 2), d % 3 == 0 ? 1 : 0);
        }
        Check.due("door 10", x.door(10, 0), BAD);
        Check.faulty("door 0 1;".repeat(11), 5, 90);
        Check.due("none at first", new ThreadMoved().rule(1), 0);
    }

    private static void period() {
        of("PERIOD (1 to 6; 1).");
        Check.due("at first", new ThreadMoved().rule(2), 1);
        Check.due("not told", Check.told("rooms 3;").rule(2), 1);
        Check.due("least", Check.told("period 1;").rule(2), 1);
        Check.due("most", Check.told("period 6;").rule(2), 6);
        Check.faulty("period 0;", 3, 7);
        Check.faulty("period 7;", 3, 7);
    }

    private static void rules() {
        of("RULES (6 at most).");
        Check.due("none at first", new ThreadMoved().rule(3), 0);
        String six = "door 0 1;door 0 1;" + "swap 0 1;turn 0 1;bar 0;".repeat(2);
        ThreadMoved x = Check.told(six);
        Check.due("six", x.rule(3), 6);
        Check.due("the last one", x.law(5), 200);
        Check.due("the seventh", x.law(6), BAD);
        Check.faulty(six + "swap 0 1;", 5, 66);
        Check.faulty(six + "turn 0 1;", 5, 66);
        Check.faulty(six + "bar 0;", 5, 66);
    }

    private static void him() {
        of("HE is in a ROOM (0 at first).");
        Check.due("at first", new ThreadMoved().rule(6), 0);
        Check.due("not told", Check.told("rooms 7;").rule(6), 0);
        Check.due("the last room", Check.told("rooms 7;in 6;").rule(6), 6);
        Check.faulty("rooms 6;in 6;", 6, 13);
    }

    private static void beast() {
        of("THE BEAST is in a ROOM or there is none (NONE, at first); it has a HABIT.");
        Check.due("at first", new ThreadMoved().rule(7), NONE);
        Check.due("not told", Check.told("rooms 7;").rule(7), NONE);
        ThreadMoved x = Check.told("rooms 7;beast 6 turns;");
        Check.due("its room", x.rule(7), 6);
        Check.due("its habit", x.rule(8), 3);
        Check.due("no beast: nobody is eaten", Check.told("door 0 1;").go(0), 1);
        x = Check.told("door 0 0;in 1;beast 0 hungry;");
        Check.due("a beast in room 0", x.rule(7), 0);
        Check.due("it is not none", x.wall(0), NONE);
    }

    private static void string() {
        of("STRING: how many DOORS it reaches through (0 to 12; 12).");
        Check.due("at first", new ThreadMoved().rule(4), 12);
        Check.due("not told", Check.told("rooms 3;").rule(4), 12);
        Check.due("least", Check.told("string 0;").rule(4), 0);
        Check.due("most", Check.told("string 12;").rule(4), 12);
        Check.faulty("string 13;", 3, 7);
        for (int most : new int[] {0, 1, 11, 12}) {
            ThreadMoved x = Check.told("door 0 1;string " + most + ";");
            for (int i = 0; i < 13; i++) {
                x.go(0);
            }
            Check.due("through 13 doors with string " + most, x.count(0), most);
        }
    }

    private static void step() {
        of("STEP (0 at first).");
        ThreadMoved x = new ThreadMoved();
        Check.due("at first", x.rule(5), 0);
        x.go(10);
        Check.due("behind a step", x.rule(5), 1);
        Check.tell(x, "");
        Check.due("behind a text", x.rule(5), 0);
    }

    private static void swap() {
        of("RULES: swap d e: second ENDS of two DOORS change places.");
        for (String rule : new String[] {"swap 0 9;", "swap 9 0;"}) {
            ThreadMoved x = Check.told("rooms 5;door 0 1;" + "door 0 0;".repeat(8) + "door 2 3 barred;" + rule);
            Check.due("of the first", x.dusk(1, 0, 1), 3);
            Check.due("of the last", x.dusk(1, 9, 1), 1);
            Check.due("first ends stay: 0", x.dusk(1, 0, 0), 0);
            Check.due("first ends stay: 9", x.dusk(1, 9, 0), 2);
            Check.due("so do bars: 0", x.dusk(1, 0, 2), 0);
            Check.due("so do bars: 9", x.dusk(1, 9, 2), 1);
            Check.due("and back", x.dusk(2, 0, 1), 1);
            Check.due("others stay", x.dusk(1, 4, 1), 0);
        }
    }

    private static void turn() {
        of("turn d n: the second END of a DOOR becomes it and n (1 to 6), modulo ROOMS.");
        Check.due("1 more", Check.told("rooms 7;door 0 5;turn 0 1;").dusk(1, 0, 1), 6);
        Check.due("from the last room to 0", Check.told("rooms 7;door 0 6;turn 0 1;").dusk(1, 0, 1), 0);
        Check.due("6 and 6 modulo 7", Check.told("rooms 7;door 0 6;turn 0 6;").dusk(1, 0, 1), 5);
        Check.due("1 and 6 modulo 2", Check.told("rooms 2;door 0 1;turn 0 6;").dusk(1, 0, 1), 1);
        Check.due("1 and 5 modulo 2", Check.told("rooms 2;door 0 1;turn 0 5;").dusk(1, 0, 1), 0);
        Check.due("2 and 6 modulo 3", Check.told("rooms 3;door 0 2;turn 0 6;").dusk(1, 0, 1), 2);
        Check.due("the first end stays", Check.told("rooms 7;door 3 6;turn 0 6;").dusk(1, 0, 0), 3);
        Check.faulty("door 0 1;turn 0 0;", 3, 16);
        Check.faulty("door 0 1;turn 0 7;", 3, 16);
    }

    private static void bar() {
        of("bar d: a DOOR is BARRED, or, if it was, not any more.");
        ThreadMoved x = Check.told("door 0 1;door 0 1 barred;bar 0;bar 1;");
        Check.due("barred", x.dusk(1, 0, 2), 1);
        Check.due("not any more", x.dusk(1, 1, 2), 0);
        Check.due("not any more behind two", x.dusk(2, 0, 2), 0);
        Check.due("barred behind two", x.dusk(2, 1, 2), 1);
        Check.due("the end stays", x.dusk(1, 0, 1), 1);
    }

    private static void leads() {
        of("A DOOR LEADS from a ROOM, if it is not BARRED and one of its ENDS is that ROOM, to its other END.");
        ThreadMoved x = Check.told("rooms 4;door 1 2;door 1 2 barred;door 3 3;in 1;");
        Check.due("from neither end", x.doors(0), 0);
        Check.due("from its first end", x.doors(1), 1);
        Check.due("from its second end", x.doors(2), 1);
        Check.due("both ends are one room", x.doors(3), 4);
        Check.due("to its second end", x.go(0), 2);
        Check.due("to its first end", x.go(0), 1);
        Check.due("not by a bar", x.go(1), STATE);
        Check.due("not from another room", x.go(2), STATE);
        x.put(3);
        Check.due("to the same room", x.go(2), 3);
    }

    private static void sleeps() {
        of("HABITS: 0 sleeps: stays.");
        ThreadMoved x = Check.told("rooms 3;door 0 1;door 1 2;beast 1 sleeps;");
        Check.due("habit 0", x.rule(8), 0);
        Check.due("he is next to it", x.go(10), 0);
        Check.due("it stays", x.rule(7), 1);
    }

    private static void left() {
        of("1 left: goes by the least DOOR that LEADS from where it is.");
        ThreadMoved x = Check.told("rooms 5;door 1 2 barred;door 3 2;door 4 2;door 2 2;beast 2 left;");
        Check.due("habit 1", x.rule(8), 1);
        x.go(10);
        Check.due("not by the barred one, by door 1", x.rule(7), 3);
        x = Check.told("rooms 3;door 2 2;door 2 1;beast 2 left;");
        x.go(10);
        Check.due("by a door to the same room", x.rule(7), 2);
        x = Check.told("rooms 3;" + "door 0 0;".repeat(9) + "door 1 2;beast 2 left;");
        x.go(10);
        Check.due("by door 9", x.rule(7), 1);
    }

    private static void hungry() {
        of("2 hungry: goes to HIS ROOM, if a DOOR LEADS there from where it is, else it stays.");
        ThreadMoved x = Check.told("rooms 4;door 0 1;door 1 2;door 0 2 barred;beast 2 hungry;");
        Check.due("habit 2", x.rule(8), 2);
        Check.due("no door leads to him", x.go(10), 0);
        Check.due("it stays, though others lead on", x.rule(7), 2);
        x.bar(2, false);
        Check.due("a door leads to him", x.go(10), 10);
        Check.due("it is there", x.rule(7), 0);
        x = Check.told("rooms 4;" + "door 1 2;".repeat(9) + "door 0 2;beast 2 hungry;");
        Check.due("the last of ten doors", x.go(10), 10);
    }

    private static void turns() {
        of("3 turns: of the DOORS that LEAD from where it is, by numbers, it goes by that at place STEP modulo how many there "
                + "are.");
        ThreadMoved x = Check.told("rooms 6;door 1 2;door 1 3 barred;door 4 1;door 5 5;door 1 5;beast 1 turns;");
        Check.due("habit 3", x.rule(8), 3);
        int[] due = {2, 4, 5, 2, 4, 5, 2};
        for (int i = 0; i < due.length; i++) {
            x.lurk(1, 3);
            x.go(10);
            Check.due("in step " + i + " of three doors", x.rule(7), due[i]);
        }
        x = Check.told("rooms 3;door 1 2;beast 1 turns;");
        x.go(10);
        x.go(10);
        x.go(10);
        Check.due("one door: modulo 1", x.rule(7), 2);
    }

    private static void byNone() {
        of("(By none it stays.)");
        for (int habit = 0; habit < 4; habit++) {
            ThreadMoved x = Check.told("rooms 3;door 0 0;door 1 0 barred;");
            x.lurk(1, habit);
            Check.due("go(10), habit " + habit, x.go(10), 0);
            Check.due("its room, habit " + habit, x.rule(7), 1);
            x = new ThreadMoved();
            x.lurk(1, habit);
            x.go(10);
            Check.due("no doors at all, habit " + habit, x.rule(7), 1);
        }
    }
}
