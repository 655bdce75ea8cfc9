/** Promises 15 to 17: steps, dusks. */
public final class StepTest {
    public static void main(String[] args) {
        refused();
        beastHabits();
        turns();
        eaten();
        dusks();
        stringFills();
        last();
        dusk();
        again();
        Check.finish();
    }

    private static void refused() {
        ThreadMoved x = Check.told("rooms 3;door 0 1;door 1 2;door 0 2 barred;beast 2 sleeps;");
        Check.due("go(-1)", x.go(-1), -1);
        Check.due("go(3)", x.go(3), -1);
        Check.due("go(9)", x.go(9), -1);
        Check.due("go(11)", x.go(11), -1);
        Check.due("go(1): not from here", x.go(1), -2);
        Check.due("go(2): barred", x.go(2), -2);
        Check.due("rule(5)", x.rule(5), 0);
        Check.due("go(0)", x.go(0), 1);
        Check.due("go(1) to the beast", x.go(1), 12);
        Check.due("go(10), eaten", x.go(10), -2);
        Check.due("go(1), eaten", x.go(1), -2);
        Check.due("go(7), eaten", x.go(7), -1);
        Check.due("rule(5)", x.rule(5), 2);
    }

    private static void beastHabits() {
        String house = "rooms 5;door 2 1;door 2 3;door 0 4;door 2 4;";
        ThreadMoved x = Check.told(house + "beast 2 sleeps;");
        x.go(10);
        Check.due("sleeps", x.rule(7), 2);
        x = Check.told(house + "beast 2 left;");
        x.go(10);
        Check.due("left: by door 0", x.rule(7), 1);
        x.go(10);
        Check.due("left: and back", x.rule(7), 2);
        x.bar(0, true);
        x.go(10);
        Check.due("left: by door 1", x.rule(7), 3);
        x.bar(1, true);
        x.go(10);
        Check.due("left: by none it stays", x.rule(7), 3);
        x = Check.told(house + "beast 2 hungry;");
        Check.due("go(10)", x.go(10), 0);
        Check.due("hungry: he is not near", x.rule(7), 2);
        Check.due("hungry: it sees where he is now", x.go(2), 14);
        Check.due("rule(7)", x.rule(7), 4);
        x = Check.told(house + "beast 4 hungry;");
        Check.due("hungry: he is near", x.go(10), 10);
        x = Check.told(house + "bar 2;beast 4 hungry;");
        x.bar(2, true);
        Check.due("hungry: dusk comes behind it", x.go(10), 0);
        Check.due("hungry: the door is open now", x.go(10), 10);
    }

    private static void turns() {
        ThreadMoved x = Check.told("rooms 6;door 2 1;door 1 1 barred;door 3 2;door 5 4;door 2 4;beast 2 turns;");
        Check.due("go(10)", x.go(10), 0);
        Check.due("turns: 0 modulo 3", x.rule(7), 1);
        x.lurk(2, 3);
        x.go(10);
        Check.due("turns: 1 modulo 3", x.rule(7), 3);
        x.lurk(2, 3);
        x.go(10);
        Check.due("turns: 2 modulo 3", x.rule(7), 4);
        x.go(10);
        Check.due("turns: 3 modulo 2", x.rule(7), 2);
        x.lurk(0, 3);
        x.put(1);
        x.lurk(0, 3);
        x.bar(0, true);
        x.go(10);
        Check.due("turns: by none it stays", x.rule(7), 0);
    }

    private static void eaten() {
        ThreadMoved x = Check.told("rooms 3;door 0 1;door 1 2;turn 0 1;beast 1 left;string 3;");
        Check.due("he goes where it is: it stays", x.go(0), 11);
        Check.due("rule(7)", x.rule(7), 1);
        Check.due("rule(9)", x.rule(9), 1);
        Check.due("the door is on his string", x.count(0), 1);
        Check.due("a step more", x.rule(5), 1);
        Check.due("it is dusk", x.door(0, 1), 2);
        x = Check.told("rooms 3;door 0 1;beast 1 left;");
        Check.due("it comes where he is", x.go(10), 10);
        Check.due("rule(7)", x.rule(7), 0);
        x = Check.told("rooms 3;door 0 1;door 0 1;beast 1 left;");
        Check.due("they do not meet in doors: he is there first", x.go(1), 11);
    }

    private static void dusks() {
        ThreadMoved x = Check.told("rooms 5;door 0 1;door 0 2;turn 0 1;swap 0 1;bar 1;period 2;");
        x.go(10);
        Check.due("no dusk yet", x.door(0, 1), 1);
        x.go(10);
        Check.due("all rules by order: turned, then swapped", x.door(0, 1), 2);
        Check.due("the other", x.door(1, 1), 2);
        Check.due("barred", x.door(1, 2), 1);
        x.go(10);
        x.go(10);
        Check.due("second dusk: 2 turned is 3", x.door(1, 1), 3);
        Check.due("the other", x.door(0, 1), 2);
        Check.due("not barred any more", x.door(1, 2), 0);
        Check.due("he goes by a door as it lies now", x.go(1), 3);
    }

    private static void stringFills() {
        ThreadMoved x = Check.told("door 0 1;door 0 0;string 2;");
        Check.due("go(1): to the same room", x.go(1), 0);
        Check.due("count(0)", x.count(0), 1);
        x.go(10);
        Check.due("staying lays none", x.count(0), 1);
        x.go(0);
        x.go(0);
        Check.due("no more than it is long", x.count(0), 2);
        Check.due("thread(1)", x.thread(1), 0);
        x = Check.told("door 0 0;string 0;");
        x.go(0);
        Check.due("a string of 0", x.count(0), 0);
        x = Check.told("door 0 0;");
        for (int i = 0; i < 14; i++) {
            x.go(0);
        }
        Check.due("a string of 12", x.count(0), 12);
    }

    private static void last() {
        ThreadMoved x = Check.told("door 0 1;");
        x.sheet(0, 0, 20);
        for (int i = 0; i < 20; i++) {
            x.lay(0, i, 10);
        }
        for (int i = 0; i < 49; i++) {
            Check.due("read", x.read(0, 0, 0, 20), 20);
        }
        Check.due("read up to 999", x.read(0, 0, 0, 18), 18);
        Check.due("rule(5)", x.rule(5), 998);
        Check.due("two more are too many", x.read(0, 0, 0, 2), -21);
        Check.due("rule(5)", x.rule(5), 998);
        Check.due("the 999th", x.go(0), 1);
        Check.due("rule(5)", x.rule(5), 999);
        Check.due("the 1000th", x.go(10), -3);
        Check.due("the 1000th by a door", x.go(0), -3);
        Check.due("no such door", x.go(1), -1);
        x.bar(0, true);
        Check.due("a barred door", x.go(0), -2);
        Check.due("rule(5)", x.rule(5), 999);
        x.bar(0, false);
        Check.due("he can, all the same", x.soonest(0, 0), 1);
    }

    private static void dusk() {
        ThreadMoved x = Check.told("rooms 5;door 0 1;door 3 2 barred;turn 0 2;bar 1;period 3;");
        Check.due("dusk(0, 0, 1)", x.dusk(0, 0, 1), 1);
        Check.due("dusk(1, 0, 1)", x.dusk(1, 0, 1), 3);
        Check.due("dusk(2, 0, 1)", x.dusk(2, 0, 1), 0);
        Check.due("dusk(59, 0, 1)", x.dusk(59, 0, 1), 4);
        Check.due("dusk(60, 0, 1)", x.dusk(60, 0, 1), 1);
        Check.due("dusk(0, 1, 2)", x.dusk(0, 1, 2), 1);
        Check.due("dusk(1, 1, 2)", x.dusk(1, 1, 2), 0);
        Check.due("dusk(5, 1, 0)", x.dusk(5, 1, 0), 3);
        Check.due("dusk(5, 1, 1)", x.dusk(5, 1, 1), 2);
        Check.due("dusk(-1, 0, 0)", x.dusk(-1, 0, 0), -1);
        Check.due("dusk(61, 0, 0)", x.dusk(61, 0, 0), -1);
        Check.due("dusk(0, 2, 0)", x.dusk(0, 2, 0), -1);
        Check.due("dusk(0, -1, 0)", x.dusk(0, -1, 0), -1);
        Check.due("dusk(0, 0, 3)", x.dusk(0, 0, 3), -1);
        Check.due("dusk(0, 0, -1)", x.dusk(0, 0, -1), -1);
        Check.due("nothing is changed", x.door(0, 1), 1);
    }

    private static void again() {
        Check.due("no rules", Check.told("door 0 1;").again(), 1);
        Check.due("ten doors", Check.told("door 0 1;".repeat(10) + "turn 9 1;").again(), 2);
        Check.due("bar", Check.told("door 0 1;bar 0;").again(), 2);
        Check.due("swap", Check.told("door 0 1;door 0 0;swap 1 0;").again(), 2);
        Check.due("swap of the same", Check.told("door 0 1;door 1 1;swap 1 0;").again(), 1);
        Check.due("turn", Check.told("rooms 7;door 0 1;turn 0 3;").again(), 7);
        Check.due("all together", Check.told("rooms 5;door 0 1;door 0 1;turn 0 1;bar 1;").again(), 10);
        String five = "door 0 0;door 0 1;door 0 2;door 0 3;door 0 4;";
        Check.due("a row of swaps", Check.told("rooms 5;" + five + "swap 0 1;swap 1 2;swap 2 3;swap 3 4;").again(), 5);
        Check.due("4 swapped, 5 turned", Check.told("rooms 5;door 0 0;door 0 1;door 0 2;door 0 3;door 0 0;"
                + "swap 0 1;swap 1 2;swap 2 3;turn 4 1;").again(), 20);
        // a ring of three doors and the turn of one among them: 3 times as many as a turn alone
        String three = "rooms 7;door 0 0;door 0 0;door 0 0;door 0 0;";
        Check.due("21", Check.told(three + "swap 0 1;swap 1 2;turn 0 1;").again(), 21);
        Check.due("42", Check.told(three + "swap 0 1;swap 1 2;turn 0 1;bar 3;").again(), 42);
        String four = "rooms 5;door 0 0;door 0 0;door 0 0;door 0 0;door 0 1;door 0 2;";
        Check.due("20", Check.told(four + "swap 0 1;swap 1 2;swap 2 3;turn 0 1;swap 4 5;bar 4;").again(), 20);
        String twelve = "rooms 5;door 0 0;door 0 0;door 0 0;door 0 0;door 0 1;door 0 2;door 0 3;";
        Check.due("60 are not too many", Check.told(twelve + "swap 0 1;swap 1 2;swap 2 3;turn 0 1;swap 4 5;swap 5 6;").again(), 60);
        String all = "rooms 7;door 0 0;door 0 1;door 0 2;door 0 3;door 0 4;door 0 0;";
        Check.due("70 are", Check.told(all + "swap 0 1;swap 1 2;swap 2 3;swap 3 4;turn 5 1;bar 0;").again(), -4);
    }
}
