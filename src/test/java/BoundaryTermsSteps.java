/** Terms: part 2. */
final class BoundaryTermsSteps {
    private static final int BAD = -1, STATE = -2, FULL = -3, NONE = -4;

    private BoundaryTermsSteps() {
    }

    static void all() {
        goesOrStays();
        beastIsThere();
        beastGoes();
        stepMore();
        dusk();
        onString();
        stringLeads();
        stringBroken();
        canCome();
        canComeByHabits();
        canComeAskedAgain();
        rowsCompared();
        seen();
        lawFits();
        lawNumber();
        heard();
        mayBe();
        mayBeThroughHisRoom();
        walledUp();
        freeFromBeast();
        sheets();
        faults();
    }

    private static void of(String words) {
        Sentence.of(Sentence.TERMS, words);
    }

    private static void goesOrStays() {
        of("A STEP: HE goes by a DOOR that LEADS from HIS ROOM, or stays;");
        ThreadMoved x = Check.told("rooms 3;door 0 1;door 1 2;door 1 1;");
        Check.due("goes", x.go(0), 1);
        Check.due("stays", x.go(10), 1);
        Check.due("by a door to the same room", x.go(2), 1);
        Check.due("goes on", x.go(1), 2);
        Check.due("by one that does not lead from there", x.go(0), STATE);
    }

    private static void beastIsThere() {
        of("if THE BEAST is there, he is EATEN;");
        String[] habits = {"sleeps", "left", "hungry", "turns"};
        for (String habit : habits) {
            ThreadMoved x = Check.told("rooms 3;door 1 2;door 0 1;beast 1 " + habit + ";");
            Check.due("he goes there: " + habit, x.go(1), 11);
            Check.due("it has not gone: " + habit, x.rule(7), 1);
            Check.due("eaten: " + habit, x.rule(9), 1);
        }
    }

    private static void beastGoes() {
        of("else it goes by its HABIT (STEP as it was; it sees where he is now): if it comes to HIS ROOM, he is EATEN.");
        ThreadMoved x = Check.told("rooms 4;door 1 2;door 1 3;beast 1 turns;");
        x.go(10);
        Check.due("step as it was: place 0", x.rule(7), 2);
        x = Check.told("rooms 4;door 0 1;door 1 2;beast 2 hungry;");
        Check.due("it sees where he is now", x.go(0), 11);
        x = Check.told("rooms 4;door 0 1;door 0 2;beast 2 hungry;");
        Check.due("not where he was", x.go(0), 1);
        Check.due("it stays", x.rule(7), 2);
        x = Check.told("rooms 4;door 0 1;door 1 2;beast 2 left;");
        Check.due("it comes to his room", x.go(0), 11);
        x = Check.told("rooms 4;door 0 1;door 2 0;beast 2 left;");
        Check.due("he has gone by then", x.go(0), 1);
        Check.due("it is where he was", x.rule(7), 0);
    }

    private static void stepMore() {
        of("STEP is 1 more;");
        ThreadMoved x = Check.told("rooms 3;door 0 1;beast 1 sleeps;");
        x.go(10);
        Check.due("he stays", x.rule(5), 1);
        x.go(0);
        Check.due("he is eaten", x.rule(5), 2);
        x.go(10);
        Check.due("a step that is refused", x.rule(5), 2);
    }

    private static void dusk() {
        of("if PERIOD divides it, it is DUSK: all RULES, by order.");
        for (int period = 1; period <= 6; period++) {
            ThreadMoved x = Check.told("rooms 7;door 0 0;turn 0 1;period " + period + ";");
            for (int step = 1; step <= 12; step++) {
                x.go(10);
                Check.due("period " + period + ", behind step " + step, x.door(0, 1), step / period % 7);
            }
        }
        ThreadMoved x = Check.told("rooms 5;door 0 1;door 0 2;turn 0 1;turn 0 1;swap 0 1;bar 1;bar 1;bar 0;");
        x.go(10);
        Check.due("turned twice, then swapped", x.door(1, 1), 3);
        Check.due("the other", x.door(0, 1), 2);
        Check.due("barred twice", x.door(1, 2), 0);
        Check.due("barred once", x.door(0, 2), 1);
        x = Check.told("rooms 3;door 0 1;bar 0;beast 1 sleeps;");
        Check.due("he is eaten", x.go(0), 11);
        Check.due("it is dusk all the same", x.door(0, 2), 1);
    }

    private static void onString() {
        of("The DOOR by which he goes is on his STRING behind those ahead, if these are fewer than STRING is long.");
        ThreadMoved x = Check.told("door 0 1;door 1 0;string 2;");
        x.go(10);
        Check.due("staying is no door", x.count(0), 0);
        x.go(0);
        x.go(1);
        Check.due("behind the one ahead", x.thread(1), 1);
        x.go(0);
        Check.due("no more than two", x.count(0), 2);
        Check.due("the last one stays", x.thread(1), 1);
        x.bite(1);
        x.go(0);
        Check.due("there is place again", x.thread(1), 0);
        x = Check.told("door 0 1;string 0;");
        x.go(0);
        Check.due("a string of 0", x.count(0), 0);
        Check.due("the door by which he goes to the beast", House.eaten().thread(0), 0);
    }

    private static void stringLeads() {
        of("His STRING LEADS from HIS ROOM by the last DOOR on it, from there by the one ahead of it, and so on;");
        ThreadMoved x = Check.told("rooms 4;door 0 1;door 1 2;door 2 3;");
        Check.due("no door on it", x.leads(0), 0);
        for (int d = 0; d < 3; d++) {
            x.go(d);
        }
        Check.due("to where he began", x.leads(0), 0);
        x.bite(1);
        x.put(1);
        Check.due("the last one alone", x.leads(0), 0);
        x.put(0);
        Check.due("from his room, wherever he is put", x.leads(0), 1);
        x = Check.told("rooms 7;door 0 1;turn 0 1;");
        x.go(0);
        x.put(0);
        Check.due("as the door lies now", x.leads(0), 2);
    }

    private static void stringBroken() {
        of("it is BROKEN at the first one (from its end) that does not LEAD from where it has come.");
        ThreadMoved x = Check.told("rooms 4;door 0 1;door 1 2;door 2 3;");
        for (int d = 0; d < 3; d++) {
            x.go(d);
        }
        x.bar(0, true);
        Check.due("at the last", x.leads(1), 0);
        x.bar(2, true);
        Check.due("at the first from its end", x.leads(1), 2);
        Check.due("it has come nowhere", x.leads(0), 3);
        x.bar(2, false);
        x.put(0);
        Check.due("not from there", x.leads(1), 2);
    }

    private static void canCome() {
        of("HE CAN come to a ROOM in n STEPS (24 at most), if by some row of STEPS he is there behind them and not EATEN;");
        // the one door leads to 1 behind six dusks: behind step 24, so that he would be there in step 25
        ThreadMoved x = Check.told("rooms 7;door 0 2;turn 0 1;period 4;");
        Check.due("25 are too many", x.soonest(1, 0), NONE);
        x.go(10);
        Check.due("24 are not", x.soonest(1, 0), 24);
        Check.due("none are needed to where he is", x.soonest(0, 0), 0);
        x = Check.told("rooms 3;door 0 1;door 1 2;beast 1 sleeps;");
        Check.due("eaten there", x.soonest(1, 0), NONE);
        Check.due("eaten on the way", x.soonest(2, 0), NONE);
        x = Check.told("rooms 3;door 0 1;beast 1 left;");
        Check.due("eaten if he stays, if he goes", x.alive(1), 0);
    }

    private static void canComeByHabits() {
        of("HE CAN come to a ROOM in n STEPS (24 at most), if by some row of STEPS he is there behind them and not EATEN;");
        // he is in 3, the beast in 0
        String house = "rooms 5;door 0 1;door 3 1;door 1 2;door 0 4;in 3;beast 0 ";
        ThreadMoved x = Check.told(house + "sleeps;");
        Check.due("sleeps: it stays in 0", x.alive(2), 2 + 4 + 8);
        x = Check.told(house + "left;");
        Check.due("left: it comes to 1, or is there, whenever he goes there", x.soonest(1, 0), NONE);
        Check.due("left: he stays", x.alive(24), 8);
        x = Check.told("rooms 5;door 0 4;door 3 1;door 1 0;door 4 2;door 1 2;in 3;beast 0 left;");
        Check.due("left: it goes to 4 and back", x.soonest(4, 0), NONE);
        Check.due("left: he can be in the other rooms", x.alive(24), 2 + 4 + 8);
        x = Check.told("rooms 5;door 2 3;door 1 2;door 0 1;door 1 4;beast 1 left;");
        Check.due("left: it leaves 1, and he goes there behind it", x.soonest(1, 0), 2);
        Check.due("left: he waits a step", x.soonest(1, 10), 10);
        Check.due("left: then he goes", x.soonest(1, 11), 2);
        x = Check.told(house + "hungry;");
        Check.due("hungry: it meets him in 1", x.soonest(1, 0), NONE);
        Check.due("hungry: he stays", x.alive(24), 8);
        x = Check.told(house + "turns;");
        Check.due("turns: to 1 in step 0, from there by 1 of 3 in step 1: to him", x.alive(2), 0);
        x.go(10);
        x.lurk(0, 3);
        Check.due("turns: to 4 in step 1", x.soonest(1, 0), 1);
        Check.due("turns: back in step 2, to 4 in step 3", x.soonest(2, 0), 2);
    }

    /** What one question leaves is not taken for the answer of another. */
    private static void canComeAskedAgain() {
        of("HE CAN come to a ROOM in n STEPS (24 at most), if by some row of STEPS he is there behind them and not EATEN;");
        ThreadMoved x = Check.told("rooms 4;door 0 1;door 0 2;door 0 3;");
        Check.due("all rooms", x.alive(24), 15);
        Check.due("room 3", x.soonest(3, 0), 1);
        x.bar(2, true);
        Check.due("not to 3 any more", x.soonest(3, 0), NONE);
        Check.due("nor a step", x.soonest(3, 10), NONE);
        Check.due("all but 3", x.alive(1), 7);
    }

    private static void rowsCompared() {
        of("rows are compared by STEPS, DOORS by numbers ahead of staying (10).");
        ThreadMoved x = Check.told("rooms 4;door 0 2;door 0 1;door 1 3;door 2 3;door 2 3;");
        Check.due("the least first door", x.soonest(3, 10), 0);
        Check.due("then the least", x.soonest(3, 11), 3);
        // the door to 2 is barred in the first two steps: he has to lose them
        x = Check.told("rooms 3;door 0 1;door 0 2 barred;bar 1;period 2;");
        Check.due("three steps", x.soonest(2, 0), 3);
        Check.due("a door ahead of staying", x.soonest(2, 10), 0);
        Check.due("and back", x.soonest(2, 11), 0);
        Check.due("and there", x.soonest(2, 12), 1);
        x = Check.told("rooms 3;door 0 2 barred;bar 0;period 2;");
        Check.due("staying, where there is no door", x.soonest(2, 10), 10);
    }

    private static void seen() {
        of("SEEN (6): behind n DUSKS from now on (1 to 6) the second END of a DOOR.");
        ThreadMoved x = Check.told("rooms 7;door 0 0;");
        Check.due("behind 0", x.see(0, 0, 0), BAD);
        Check.due("behind 7", x.see(7, 0, 0), BAD);
        for (int n = 1; n <= 6; n++) {
            Check.due("behind " + n, x.see(n, 0, 2 * n % 7), n);
        }
        Check.due("a seventh", x.see(1, 0, 2), FULL);
        Check.due("turn 0 2 alone", x.laws(0), 1);
        Check.due("its number", x.laws(1), 102);
    }

    private static void lawFits() {
        of("A LAW FITS, if it is one RULE alone (swap d e, d below e; turn d n, n below ROOMS; bar d) by which all is so, DOORS "
                + "being as they are now.");
        Check.due("no doors", new ThreadMoved().laws(0), 0);
        Check.due("one door of 2 rooms: turn, bar", Check.told("door 0 1;").laws(0), 2);
        Check.due("one door of 7 rooms: 6 turns, bar", Check.told("rooms 7;door 0 1;").laws(0), 7);
        Check.due("two doors: a swap more", Check.told("door 0 1;door 0 1;").laws(0), 5);
        Check.due("ten doors of 7 rooms", Check.told("rooms 7;" + "door 0 1;".repeat(10)).laws(0), 45 + 60 + 10);
        ThreadMoved x = Check.told("rooms 3;door 0 0;door 0 1;turn 0 1;turn 1 1;");
        x.see(1, 0, 1);
        x.see(1, 1, 2);
        Check.due("one alone, not two", x.laws(0), 0);
        x.forget(1);
        Check.due("swap 0 1, turn 0 1", x.laws(0), 2);
        x.go(10);
        x.go(10);
        x.go(10);
        x.go(10);
        Check.due("doors are now", x.door(0, 1), 1);
        Check.due("swap 0 1 no more; turn 1 1, turn 1 2, bars", x.laws(0), 4);
    }

    private static void lawNumber() {
        of("As a NUMBER: swap 10 times d and e, turn 100 and 10 times d and n, bar 200 and d.");
        String nine = "rooms 7;" + "door 0 0;".repeat(8);
        ThreadMoved x = Check.told(nine + "door 0 1;door 0 2;swap 9 8;turn 9 6;bar 9;");
        Check.due("law(0)", x.law(0), 98);
        Check.due("law(1)", x.law(1), 196);
        Check.due("law(2)", x.law(2), 209);
        Check.due("the least: swap 0 1", x.laws(1), 1);
        Check.due("the greatest: bar 9", x.laws(2), 209);
        x.see(1, 8, 2);
        x.see(1, 9, 1);
        Check.due("swap 8 9", x.laws(1), 89);
        Check.due("swap 8 9 alone", x.laws(2), 89);
        x.forget(0);
        x.see(1, 9, 1);
        x.see(2, 9, 0);
        Check.due("turn 9 6", x.laws(1), 196);
        Check.due("turn 9 6 alone", x.laws(2), 196);
        x = Check.told("rooms 2;door 0 1;");
        Check.due("turn 0 1", x.laws(1), 101);
        Check.due("bar 0", x.laws(2), 200);
    }

    private static void heard() {
        of("HEARD (6): behind n STEPS from now on (1 to 12) THE BEAST is in a ROOM, or not.");
        ThreadMoved x = Check.told("rooms 3;door 1 2;");
        Check.due("behind 0", x.hear(0, 1, true), BAD);
        Check.due("behind 13", x.hear(13, 1, true), BAD);
        int[] times = {1, 2, 3, 4, 11, 12};
        for (int i = 0; i < times.length; i++) {
            Check.due("behind " + times[i], x.hear(times[i], 1, times[i] % 2 == 0), i + 1);
        }
        Check.due("a seventh", x.hear(1, 1, true), FULL);
        Check.due("left: from 1 to 2 and back", x.lair(1), 2);
    }

    private static void mayBe() {
        of("It may be in a ROOM now (not HIS), if from there on, HE staying where he is, it going by its HABIT in each STEP (from "
                + "HIS ROOM, too, be he EATEN or not), all is so.");
        ThreadMoved x = Check.told("rooms 7;door 6 5;in 6;beast 5 sleeps;");
        for (int habit = 0; habit < 4; habit++) {
            Check.due("nothing is heard: all but his, habit " + habit, x.lair(habit), 63);
        }
        x.hear(12, 5, true);
        Check.due("sleeps: it is there", x.lair(0), 32);
        Check.due("left: to his room and back", x.lair(1), 32);
        Check.due("hungry: it comes to him and stays", x.lair(2), 0);
        x.hush(0);
        x.hear(12, 6, true);
        Check.due("hungry: in his room behind 12", x.lair(2), 32);
        Check.due("sleeps: never in his room", x.lair(0), 0);
        ThreadMoved two = new ThreadMoved();
        Check.due("two rooms: the other one", two.lair(0), 2);
        two.put(1);
        Check.due("two rooms: the other one", two.lair(0), 1);
    }

    private static void mayBeThroughHisRoom() {
        of("It may be in a ROOM now (not HIS), if from there on, HE staying where he is, it going by its HABIT in each STEP (from "
                + "HIS ROOM, too, be he EATEN or not), all is so.");
        ThreadMoved x = Check.told("rooms 3;door 0 1;door 0 2;in 1;");
        x.hear(1, 1, true);
        Check.due("left: from 0 alone", x.lair(1), 1);
        x.hear(2, 0, true);
        x.hear(3, 1, true);
        Check.due("left: from his room, too", x.lair(1), 1);
        x = House.eaten();
        Check.due("eaten in 1: not in his room", x.lair(0), 5);
        x.hear(1, 1, true);
        x.hear(2, 0, true);
        Check.due("eaten: through his room", x.lair(1), 5);
        x = Check.told("rooms 4;door 1 2;turn 0 1;period 2;");
        x.hear(1, 2, true);
        x.hear(2, 1, true);
        x.hear(3, 3, true);
        Check.due("left: dusk behind the second step", x.lair(1), 2);
        x.go(10);
        Check.due("left: dusk behind the first", x.lair(1), 0);
        x = Check.told("rooms 4;door 1 2;door 1 3;period 2;");
        x.go(10);
        x.hear(1, 3, true);
        x.hear(3, 3, true);
        Check.due("turns: step 1, and 3", x.lair(3), 2);
    }

    private static void walledUp() {
        of("WALLED UP are DOORS that never LEAD anywhere from now on.");
        ThreadMoved x = Check.told("rooms 3;door 0 1 barred;bar 0;beast 1 sleeps;");
        Check.due("a rule does not open it again", x.wall(0), 1);
        Check.due("door 0", x.wall(1), 1);
        x = Check.told("rooms 4;door 1 2;door 3 0;swap 0 1;beast 1 sleeps;");
        Check.due("its end is moved all the same: door 0 keeps it in", x.wall(1), 1);
        Check.due("nothing is walled up by asking", x.doors(1), 1);
    }

    private static void freeFromBeast() {
        of("Free from THE BEAST is ROOM 0, if it can not come there in 24 STEPS from now on, going by any DOORS that LEAD or "
                + "staying.");
        // the door lies to 0 from the fourth dusk on, behind step 24: in step 25
        ThreadMoved x = Check.told("rooms 7;door 1 3;turn 0 1;period 6;in 2;beast 1 sleeps;");
        Check.due("25 steps are too many", x.wall(0), 0);
        x.go(10);
        Check.due("24 are not", x.wall(0), 1);
        x = Check.told("rooms 3;door 1 2;door 2 0 barred;bar 1;period 6;in 2;beast 1 sleeps;");
        Check.due("it stays till the door is open", x.wall(0), 1);
        x = Check.told("rooms 7;door 1 0;turn 0 1;period 4;in 2;beast 1 sleeps;");
        for (int i = 0; i < 3; i++) {
            x.go(10);
        }
        Check.due("in the very next step alone", x.wall(0), 1);
        x.go(10);
        Check.due("too late", x.wall(0), 0);
        x = Check.told("door 0 1 barred;in 1;beast 0 sleeps;");
        Check.due("it is there now", x.wall(0), NONE);
        x = Check.told("beast 1 left;");
        Check.due("no doors", x.wall(0), 0);
    }

    private static void sheets() {
        of("SHEETS 0 to 3 are rows of BYTES (lane 0), SHORTS (1), INTS (2) with 0 to 40 CELLS, or nothing (at first).");
        ThreadMoved x = new ThreadMoved();
        for (int k = 0; k < 4; k++) {
            Check.due("nothing at first", x.lay(k, 0, 0), -11);
            for (int lane = 0; lane < 3; lane++) {
                Check.due("no cells", x.sheet(k, lane, 0), 1);
                Check.due("cell 0 of none", x.lay(k, 0, 0), -12);
                Check.due("40 cells", x.sheet(k, lane, 40), 1);
                Check.due("cell 39", x.lay(k, 39, 0), 1);
                Check.due("cell 40", x.lay(k, 40, 0), -12);
                Check.due("41 cells", x.sheet(k, lane, 41), BAD);
            }
        }
        Check.due("sheet -1", x.sheet(-1, 0, 1), BAD);
        Check.due("sheet 4", x.sheet(4, 0, 1), BAD);
        Check.due("lane -1", x.sheet(0, -1, 1), BAD);
        Check.due("lane 3", x.sheet(0, 3, 1), BAD);
    }

    private static void faults() {
        of("A FAULT is what the machine finds: 1 NULL (nothing), 2 INDEX, 3 CAST (another lane), 4 SIZE (below 0).");
        ThreadMoved x = new ThreadMoved();
        Check.due("nothing", x.read(0, 0, 0, 1), 0);
        Check.due("NULL", x.torn(), 1);
        x.sheet(0, 1, 2);
        Check.due("cell 2 of two", x.read(0, 1, 2, 1), 0);
        Check.due("INDEX", x.torn(), 2);
        for (int lane = 0; lane < 3; lane += 2) {
            Check.due("taken as of lane " + lane, x.read(0, lane, 0, 1), 0);
            Check.due("CAST", x.torn(), 3);
        }
        Check.due("SIZE", x.sheet(0, 1, -1), -14);
        Check.due("SIZE is told by sheet() alone", x.torn(), 3);
    }
}
