/** Promises 1 to 9: a new object, the tape, the text, what there is. */
final class BoundaryTape {
    private static final int BAD = -1, FULL = -3, NONE = -4;
    private static final int LEAST = Integer.MIN_VALUE, MOST = Integer.MAX_VALUE;

    private BoundaryTape() {
    }

    static void all() {
        newObject();
        feed();
        feedFull();
        end();
        endBad();
        text();
        textFault();
        fault();
        rule();
        ruleBad();
        door();
        doorBad();
        law();
        lawBad();
        doors();
        doorsBad();
    }

    private static void newObject() {
        Sentence.of(1, "Two ROOMS, no DOORS, no BEAST; SHEETS have nothing.");
        ThreadMoved x = new ThreadMoved();
        int[] due = {2, 0, 1, 0, 12, 0, 0, NONE, 0, 0};
        for (int i = 0; i < due.length; i++) {
            Check.due("rule(" + i + ")", x.rule(i), due[i]);
        }
        int[] counts = {0, 0, 0, 0, 0, NONE, 0};
        for (int i = 0; i < counts.length; i++) {
            Check.due("count(" + i + ")", x.count(i), counts[i]);
        }
        for (int k = 0; k < 4; k++) {
            Check.due("sheet " + k, x.lay(k, 0, 0), -11);
        }
        Check.due("fault()", x.fault(), 0);
        Check.due("torn()", x.torn(), 0);
        Check.due("back(0)", x.back(0), -2);
        Check.due("back(1)", x.back(1), -2);
        Check.due("text() of an empty tape", x.text(), 0);
    }

    private static void feed() {
        Sentence.of(2, "Eight bytes come behind THE TAPE, the highest first: how many it has.");
        ThreadMoved x = new ThreadMoved();
        Check.due("of an empty tape", x.feed(0x20696e2020202031L), 8);
        x.end(3);
        Check.due("behind 3 bytes", x.feed(0x203b212121212121L), 11);
        x.end(4);
        Check.due("behind 4", x.feed(0x313b202020202020L), 12);
        Check.due("' in 1;' is told", x.text(), 1);
        Check.due("rule(6)", x.rule(6), 1);
        Check.due("the lowest byte is the last", x.feed(0x2020202020202021L), 8);
        Check.due("its place", x.text(), -17);
        Check.due("the highest is the first", x.feed(0x8020202020202020L), 8);
        Check.due("its place", x.text(), -10);
        Check.due("all bits", x.feed(-1L), 8);
        Check.due("are no token", x.text(), -10);
        Check.due("of which kind", x.fault(), 1);
        Check.due("no bits", x.feed(0L), 8);
        Check.due("are no token", x.text(), -10);
    }

    private static void feedFull() {
        Sentence.of(2, "FULL: more than 320.");
        ThreadMoved x = House.full();
        Check.due("320 bytes are not too many", x.count(4), 320);
        Twins.refused(House::full, FULL, "feed(-1)", y -> y.feed(-1L));
        for (int n = 319; n >= 313; n--) {
            Check.due("end(" + n + ")", x.end(n), n + 1);
            Check.due("8 behind " + n, x.feed(0L), FULL);
            Check.due("how many stay", x.count(4), n);
        }
        x.end(312);
        Check.due("8 behind 312", x.feed(0x2020202020202020L), 320);
        Check.due("it is all blank", x.text(), 0);
        Check.due("it is empty then", x.feed(0L), 8);
    }

    private static void end() {
        Sentence.of(3, "THE TAPE keeps its first n bytes: how many it had.");
        ThreadMoved x = new ThreadMoved();
        Check.due("nothing of nothing", x.end(0), 0);
        Check.lay(x, "in 1;!!!");
        Check.due("all", x.end(8), 8);
        Check.due("its first 5", x.end(5), 8);
        Check.due("count(4)", x.count(4), 5);
        Check.due("they are told", x.text(), 1);
        Check.lay(x, "!");
        Check.due("none", x.end(0), 1);
        Check.due("nothing is told", x.text(), 0);
        x = House.full();
        Check.due("all of 320", x.end(320), 320);
        Check.due("none of 320", x.end(0), 320);
    }

    private static void endBad() {
        Sentence.of(3, "BAD.");
        Twins.allRefused(House::furnished, BAD, "end", ThreadMoved::end, LEAST, -1, 6, 8, 320, MOST);
        Twins.allRefused(ThreadMoved::new, BAD, "end", ThreadMoved::end, -1, 1, 320);
        Twins.allRefused(House::full, BAD, "end", ThreadMoved::end, -1, 321);
    }

    private static void text() {
        Sentence.of(4, "THE TAPE (empty then) tells all: how many lines;");
        Check.taken("", 0);
        Check.taken(" ".repeat(320), 0);
        Check.taken("in 1;", 1);
        String most = "rooms 7;period 2;in 0;beast 1 left;string 3;" + "door 0 1;".repeat(10) + "bar 0;".repeat(6);
        Check.taken(most, 21);
        ThreadMoved x = Check.told(most);
        Check.due("empty then", x.count(4), 0);
        Check.due("it tells nothing then", x.text(), 0);
        Check.due("in place of what there was", x.rule(0), 2);
    }

    private static void textFault() {
        Sentence.of(4, "-10 less the place of its FAULT: that which was told stays.");
        Check.faulty("!", 1, 0);
        Check.faulty(" ".repeat(319) + "!", 1, 319);
        Check.faulty(" ".repeat(318) + "in", 2, 320);
        String[] texts = {"!", "rooms 3;in 1;!", "door 0 1 barred;?", "period 6;string 1;beast 1 left;123"};
        for (String text : texts) {
            Twins.refused(BoundaryTape::withFault1, -10 - text.length() + (text.endsWith("123") ? 3 : 1), "text of " + text,
                    x -> Check.tell(x, text));
        }
        ThreadMoved x = withFault1();
        Check.tell(x, "!");
        Check.due("the tape is empty then, too", x.count(4), 0);
    }

    /** So that another fault of that kind leaves all as it is; the tape is empty. */
    private static ThreadMoved withFault1() {
        ThreadMoved x = House.furnished();
        x.end(0);
        Check.due("fault()", x.fault(), 1);
        return x;
    }

    private static void fault() {
        Sentence.of(5, "The FAULT of the latest text(); 0.");
        ThreadMoved x = new ThreadMoved();
        Check.due("no text yet", x.fault(), 0);
        String[] texts = {"!", "x", "in 7;", "in 0;in 0;", "bar 0;".repeat(7), "in 2;", "beast 0 left;"};
        for (int i = 0; i < texts.length; i++) {
            Check.tell(x, texts[i]);
            Check.due("fault of " + texts[i], x.fault(), i + 1);
            Check.due("it stays", x.fault(), i + 1);
            Check.lay(x, "!");
            Check.due("a tape alone is no text", x.fault(), i + 1);
            x.end(0);
        }
        Check.tell(x, "in 1;");
        Check.due("a text that is taken", x.fault(), 0);
    }

    private static void rule() {
        Sentence.of(6, "0 ROOMS, 1 DOORS, 2 PERIOD, 3 RULES, 4 STRING, 5 STEP, 6 HIS ROOM, 7 the ROOM of THE BEAST (NONE), 8 its "
                + "HABIT, 9 whether he is EATEN.");
        ThreadMoved x = House.furnished();
        int[] due = {5, 5, 3, 3, 5, 3, 0, 4, 0, 0};
        for (int i = 0; i < due.length; i++) {
            Check.due("rule(" + i + ")", x.rule(i), due[i]);
        }
        x.lurk(NONE, 3);
        Check.due("no beast", x.rule(7), NONE);
        Check.due("its habit, as told last", x.rule(8), 3);
        Check.due("eaten", House.eaten().rule(9), 1);
        Check.due("where he is eaten", House.eaten().rule(6), 1);
        Check.due("step 999", House.late().rule(5), 999);
    }

    private static void ruleBad() {
        Sentence.of(6, "BAD.");
        Twins.allRefused(House::furnished, BAD, "rule", ThreadMoved::rule, LEAST, -1, 10, MOST);
    }

    private static void door() {
        Sentence.of(7, "Of a DOOR: 0 its first END, 1 the second one, 2 whether it is BARRED.");
        ThreadMoved x = Check.told("rooms 7;door 6 5 barred;" + "door 0 0;".repeat(8) + "door 1 6;");
        int[] first = {6, 5, 1};
        int[] last = {1, 6, 0};
        for (int what = 0; what < 3; what++) {
            Check.due("door(0, " + what + ")", x.door(0, what), first[what]);
            Check.due("door(9, " + what + ")", x.door(9, what), last[what]);
        }
    }

    private static void doorBad() {
        Sentence.of(7, "BAD.");
        Twins.allRefused(House::furnished, BAD, "door(.., 0)", (x, d) -> x.door(d, 0), LEAST, -1, 5, 9, 10, MOST);
        Twins.allRefused(House::furnished, BAD, "door(0, ..)", (x, what) -> x.door(0, what), LEAST, -1, 3, MOST);
        Check.due("no doors", new ThreadMoved().door(0, 0), BAD);
    }

    private static void law() {
        Sentence.of(8, "A RULE as a NUMBER (swap as it was told).");
        ThreadMoved x = Check.told("door 0 1;".repeat(10) + "swap 9 8;swap 0 1;turn 9 6;turn 0 1;bar 9;swap 1 0;");
        int[] due = {98, 1, 196, 101, 209, 10};
        for (int k = 0; k < due.length; k++) {
            Check.due("law(" + k + ")", x.law(k), due[k]);
        }
    }

    private static void lawBad() {
        Sentence.of(8, "BAD.");
        Twins.allRefused(House::furnished, BAD, "law", ThreadMoved::law, LEAST, -1, 3, 5, 6, MOST);
        Check.due("no rules", new ThreadMoved().law(0), BAD);
    }

    private static void doors() {
        Sentence.of(9, "DOORS that LEAD from a ROOM (bits).");
        ThreadMoved x = Check.told("rooms 7;door 0 6;door 6 0 barred;" + "door 6 6;".repeat(7) + "door 5 6;");
        Check.due("from 0", x.doors(0), 1);
        Check.due("from 6", x.doors(6), 1021);
        Check.due("from 5", x.doors(5), 512);
        Check.due("none", x.doors(1), 0);
        Check.due("all ten", Check.told("door 0 1;".repeat(10)).doors(0), 1023);
    }

    private static void doorsBad() {
        Sentence.of(9, "BAD.");
        Twins.allRefused(House::furnished, BAD, "doors", ThreadMoved::doors, LEAST, NONE, -1, 5, 6, 7, MOST);
        Check.due("two rooms", new ThreadMoved().doors(2), BAD);
    }
}
