/** Terms: part 1, the tape, tokens, lines, faults. */
final class BoundaryTermsText {
    private static final int NONE = -4;

    /** One line of each kind, its tokens parted by blanks, and the doors that make it a text that is taken. */
    private static final String[] LINES = {"rooms 7 ;", "door 0 1 ;", "door 0 1 barred ;", "period 6 ;", "swap 0 1 ;",
        "turn 1 6 ;", "bar 1 ;", "in 1 ;", "beast 1 sleeps ;", "beast 1 left ;", "beast 1 hungry ;", "beast 1 turns ;",
        "string 12 ;"};
    private static final String DOORS = "door 0 1;door 0 1;";

    private BoundaryTermsText() {
    }

    static void all() {
        tape();
        tokens();
        names();
        numbers();
        lines();
        linesCutOff();
        linesSpoilt();
        habits();
        roomsAndDoors();
        ruleMore();
        inAndBeast();
        firstMet();
        fault1();
        fault2();
        fault3();
        fault4();
        fault5();
        fault6();
        fault7();
        tellsAll();
        nothingOnString();
        imagesAreGone();
    }

    private static void of(String words) {
        Sentence.of(Sentence.TERMS, words);
    }

    private static void tape() {
        of("THE TAPE has 320 bytes, places from 0.");
        Check.faulty("!" + " ".repeat(319), 1, 0);
        Check.faulty(" ".repeat(319) + "!", 1, 319);
        Check.faulty(" ".repeat(316) + "in 1", 2, 320);
        Check.taken(" ".repeat(315) + "in 1;", 1);
        ThreadMoved x = new ThreadMoved();
        Check.lay(x, " ".repeat(320));
        Check.due("count(4)", x.count(4), 320);
        Check.due("one more", x.feed(0), -3);
    }

    private static void tokens() {
        of("TOKENS, each as long as may be, blanks (32) between:");
        Check.taken("rooms7;in6;", 2);
        Check.taken("   rooms     7   ;   in    6   ;   ", 2);
        Check.taken("door0 1barred;", 1);
        Check.taken("beast1left;", 1);
        Check.taken(" ", 0);
        Check.faulty("roomsin 6;", 2, 0);
        Check.faulty("rooms 7in 6;", 2, 7);
        Check.faulty("door 01;", 2, 7);
        Check.faulty("door 0 1 barredx;", 2, 9);
        Check.faulty("in" + (char) 31 + "1;", 1, 2);
        Check.faulty("in" + (char) 33 + "1;", 1, 2);
        Check.faulty("in" + (char) 9 + "1;", 1, 2);
        Check.faulty("in" + (char) 10 + "1;", 1, 2);
        Check.faulty("in" + (char) 160 + "1;", 1, 2);
        Check.faulty("in" + (char) 0 + "1;", 1, 2);
    }

    private static void names() {
        of("NAMES (a .. z),");
        Check.faulty("a;", 2, 0);
        Check.faulty("z;", 2, 0);
        Check.faulty("abcdefghijklmnopqrstuvwxyz;", 2, 0);
        Check.faulty((char) ('a' - 1) + ";", 1, 0);
        Check.faulty((char) ('z' + 1) + ";", 1, 0);
        Check.faulty("In 1;", 1, 0);
        Check.faulty("iN 1;", 2, 0);
        Check.faulty("A", 1, 0);
        Check.faulty("Z", 1, 0);
        Check.faulty((char) ('a' + 128) + ";", 1, 0);
    }

    private static void numbers() {
        of("NUMBERS (1 or 2 figures), one ; .");
        Check.taken("rooms 7;", 1);
        Check.taken("rooms 07;", 1);
        Check.taken("string 12;", 1);
        Check.taken("string 00;", 1);
        Check.faulty("rooms 007;", 1, 6);
        Check.faulty("string 012;", 1, 7);
        Check.faulty("rooms " + (char) ('0' - 1) + ";", 1, 6);
        Check.faulty("rooms " + (char) ('9' + 1) + ";", 1, 6);
        Check.faulty("rooms 9;", 3, 6);
        Check.faulty("rooms -7;", 1, 6);
        Check.faulty("rooms +7;", 1, 6);
        Check.faulty("rooms 7;;", 2, 8);
        Check.faulty("rooms 7,", 1, 7);
        Check.faulty("rooms 7<", 1, 7);
        Check.faulty("rooms " + (char) ('7' + 128) + ";", 1, 6);
    }

    private static void lines() {
        of("text: { line } line: rooms N ; | door N N [ barred ] ; | period N ; | swap N N ; | turn N N ; | bar N ; | in N ; | "
                + "beast N H ; | string N ;");
        Check.taken("", 0);
        for (String line : LINES) {
            String others = line.startsWith("in") ? "beast 0 left;" : line.startsWith("beast") ? "in 0;" : "in 1;";
            Check.taken(DOORS + others + line, 4);
            Check.taken(line + others + DOORS, 4);
        }
        String all = "rooms 7;door 0 6 barred;door 1 2;period 2;swap 0 1;turn 0 3;bar 1;in 3;beast 4 left;string 5;";
        Check.taken(all, 10);
        Check.due("tokens begin with no line", Check.tell(new ThreadMoved(), "barred;" + all), -10);
    }

    /** A line that ends too soon: the end is not as due, behind whichever token. */
    private static void linesCutOff() {
        of("text: { line } line: rooms N ; | door N N [ barred ] ; | period N ; | swap N N ; | turn N N ; | bar N ; | in N ; | "
                + "beast N H ; | string N ;");
        for (String line : LINES) {
            for (int end = line.indexOf(' '); end >= 0; end = line.indexOf(' ', end + 1)) {
                Check.faulty(line.substring(0, end), 2, end);
                Check.faulty(line.substring(0, end) + "   ", 2, end + 3);
            }
        }
    }

    /** Each token of a line in turn is one that can not stand there. */
    private static void linesSpoilt() {
        of("text: { line } line: rooms N ; | door N N [ barred ] ; | period N ; | swap N N ; | turn N N ; | bar N ; | in N ; | "
                + "beast N H ; | string N ;");
        for (String line : LINES) {
            String[] tokens = line.split(" ");
            int place = 0;
            for (String token : tokens) {
                String rest = line.substring(place + token.length());
                String[] wrong = token.equals(";") ? new String[] {"x", "1"}
                        : token.matches("[0-9]+") ? new String[] {"x", ";", "barred"}
                        : new String[] {"x", token + "s", "z" + token.substring(1), token.substring(1), "1"};
                for (String other : wrong) {
                    Check.faulty(line.substring(0, place) + other + rest, 2, place);
                }
                place += token.length() + 1;
            }
        }
    }

    private static void habits() {
        of("H: sleeps | left | hungry | turns");
        String[] habits = {"sleeps", "left", "hungry", "turns"};
        for (int i = 0; i < 4; i++) {
            Check.due(habits[i], Check.told("beast 1 " + habits[i] + ";").rule(8), i);
        }
        Check.faulty("beast 1 sleep;", 2, 8);
        Check.faulty("beast 1 lefts;", 2, 8);
        Check.faulty("beast 1 barred;", 2, 8);
        Check.faulty("beast 1 0;", 2, 8);
        Check.faulty("beast 1;", 2, 7);
    }

    private static void roomsAndDoors() {
        of("ROOMS 0 to 6, DOORS 0 to 9.");
        Check.taken("rooms 7;door 0 6;door 6 0;in 6;beast 0 left;", 5);
        Check.faulty("rooms 7;door 7 0;", 3, 13);
        Check.faulty("rooms 7;door 0 7;", 3, 15);
        Check.faulty("rooms 7;in 7;", 3, 11);
        Check.faulty("rooms 7;beast 7 left;", 3, 14);
        String ten = "door 0 1;".repeat(10);
        Check.taken(ten + "swap 0 9;swap 9 0;turn 9 1;bar 9;turn 0 1;bar 0;", 16);
        Check.faulty(ten + "swap 10 0;", 3, 95);
        Check.faulty(ten + "swap 0 10;", 3, 97);
        Check.faulty(ten + "turn 10 1;", 3, 95);
        Check.faulty(ten + "bar 10;", 3, 94);
    }

    private static void ruleMore() {
        of("swap, turn, bar: a RULE more.");
        ThreadMoved x = Check.told(DOORS + "swap 0 1;bar 1;bar 1;turn 1 2;");
        Check.due("four", x.rule(3), 4);
        int[] due = {1, 201, 201, 112};
        for (int k = 0; k < due.length; k++) {
            Check.due("law(" + k + ")", x.law(k), due[k]);
        }
        Check.due("they are no doors", x.rule(1), 2);
        Check.due("not barred by being told", x.door(1, 2), 0);
    }

    private static void inAndBeast() {
        of("in: HIS ROOM. beast: its ROOM, HABIT.");
        ThreadMoved x = Check.told("rooms 7;in 6;beast 5 turns;");
        Check.due("his", x.rule(6), 6);
        Check.due("its", x.rule(7), 5);
        Check.due("habit", x.rule(8), 3);
    }

    private static void firstMet() {
        of("FAULTS, the first met as it is read (a TOKEN is read when the one before has been taken):");
        Check.faulty("rooms 8!", 3, 6);
        Check.faulty("rooms !;rooms 9;", 1, 6);
        Check.faulty("roms !", 2, 0);
        Check.faulty("rooms 3;rooms !", 4, 8);
        Check.faulty("rooms 3;rooms", 4, 8);
        Check.faulty("door 0 1;".repeat(10) + "door !", 5, 90);
        Check.faulty("bar 0;".repeat(6) + "bar !", 5, 36);
        Check.faulty("swap 1 1!", 4, 7);
        Check.faulty("swap 1 !1", 1, 7);
        Check.faulty("swap 10 !", 3, 5);
        Check.faulty("beast 7 x", 3, 6);
        Check.faulty("door 0 1 barred!", 1, 15);
        Check.faulty("in 1 !", 1, 5);
        Check.faulty("in 5;in 5;", 4, 5);
        Check.faulty("in 5;bar 0;!", 1, 11);
    }

    private static void fault1() {
        of("1 no TOKEN, a NUMBER that is too long (its first byte).");
        Check.faulty("!", 1, 0);
        Check.faulty("  \n", 1, 2);
        Check.faulty("rooms 3;" + (char) 255, 1, 8);
        Check.faulty("rooms 100;", 1, 6);
        Check.faulty("rooms 000;", 1, 6);
        Check.faulty("rooms 4294967299;", 1, 6);
        Check.faulty("123;", 1, 0);
        Check.faulty("rooms 3 123;", 1, 8);
        Check.faulty("rooms 3;123", 1, 8);
    }

    private static void fault2() {
        of("2 a TOKEN that can not stand there (a NAME that begins no line, is no H, is not barred; or the end: the length).");
        Check.faulty("room 3;", 2, 0);
        Check.faulty("left;", 2, 0);
        Check.faulty(";", 2, 0);
        Check.faulty("12;", 2, 0);
        Check.faulty("rooms 3;n;", 2, 8);
        Check.faulty("beast 1 right;", 2, 8);
        Check.faulty("door 0 1 bar;", 2, 9);
        Check.faulty("door 0 1 barred barred;", 2, 16);
        Check.faulty("door 0 barred;", 2, 7);
        for (String line : LINES) {
            if (!line.startsWith("door")) {
                Check.faulty(line.replace(";", "barred ;"), 2, line.length() - 1);
            }
        }
        Check.faulty("rooms", 2, 5);
        Check.faulty("rooms 3;in  ", 2, 12);
        Check.faulty("rooms 3;in 1 ", 2, 13);
    }

    private static void fault3() {
        of("3 a NUMBER out of its bounds.");
        String[] texts = {"rooms 1;", "rooms 8;", "door 7 0;", "period 0;", "period 7;", "swap 10 0;", "turn 10 1;",
            "bar 10;", "in 7;", "beast 7 left;", "string 13;", "string 99;"};
        for (String text : texts) {
            Check.faulty(text, 3, text.indexOf(' ') + 1);
        }
        Check.faulty("door 0 7;", 3, 7);
        Check.faulty("swap 0 10;", 3, 7);
        Check.faulty("turn 0 0;", 3, 7);
        Check.faulty("turn 0 7;", 3, 7);
        Check.faulty("turn 0 07;", 3, 7);
    }

    private static void fault4() {
        of("4 rooms, period, in, beast, string for the second time (its NAME), a DOOR swapped with itself (the second one).");
        String[] once = {"rooms 3;", "period 2;", "in 1;", "beast 1 left;", "string 3;"};
        for (String line : once) {
            Check.faulty(line + line, 4, line.length());
            Check.faulty(line + DOORS + " " + line, 4, line.length() + 19);
            String all = String.join("", once).replace("in 1", "in 0");
            Check.faulty(all + line, 4, all.length());
        }
        Check.faulty(DOORS + "swap 0 0;", 4, 25);
        Check.faulty(DOORS + "swap 1 01;", 4, 25);
        Check.faulty("swap 9 9;", 4, 7);
        Check.taken(DOORS + "swap 0 1;swap 0 1;turn 0 1;turn 0 1;bar 0;bar 0;", 8);
    }

    private static void fault5() {
        of("5 the 11th door, the 7th RULE (its NAME).");
        String ten = "door 0 1;".repeat(10);
        Check.taken(ten + "bar 0;".repeat(6), 16);
        Check.faulty(ten + "  door 0 1;", 5, 92);
        Check.faulty(ten + "bar 0;".repeat(6) + "door 0 1;", 5, 126);
        Check.faulty(ten + "bar 0;".repeat(6) + " swap 0 1;", 5, 127);
        Check.faulty("turn 0 1;".repeat(6) + "turn 0 1;", 5, 54);
        Check.faulty("swap 0 1;turn 0 1;bar 0;".repeat(2) + "bar 0;", 5, 48);
    }

    private static void fault6() {
        of("Behind all (the length): 6 a ROOM, a DOOR that there is not;");
        String[] texts = {"door 2 0;", "door 0 2;", "in 2;", "beast 2 left;", "rooms 6;door 6 0;", "rooms 6;in 6;",
            "swap 0 1;", "turn 0 1;", "bar 0;", "door 0 1;bar 1;", "door 0 1;turn 1 1;", "door 0 1;swap 0 1;",
            "door 0 1;swap 1 0;", "in 2;beast 2 left;", "beast 0 left;bar 0;"};
        for (String text : texts) {
            Check.faulty(text, 6, text.length());
            Check.faulty(text + "  ", 6, text.length() + 2);
        }
        Check.taken("bar 1;in 2;door 0 2;door 1 2;rooms 3;", 5);
    }

    private static void fault7() {
        of("7 THE BEAST is in HIS ROOM.");
        Check.faulty("beast 0 left;", 7, 13);
        Check.faulty("beast 0 left;in 0;", 7, 18);
        Check.faulty("rooms 7;in 6;beast 6 sleeps; ", 7, 29);
        Check.taken("beast 0 left;in 1;", 2);
        Check.taken("in 0;", 1);
    }

    private static void tellsAll() {
        of("A text that is taken tells all, in place of what there was;");
        ThreadMoved x = House.furnished();
        x.end(0);
        Check.due("a text with nothing", x.text(), 0);
        int[] due = {2, 0, 1, 0, 12, 0, 0, NONE, 0, 0};
        for (int i = 0; i < due.length; i++) {
            Check.due("rule(" + i + ")", x.rule(i), due[i]);
        }
        Check.due("no bars", x.count(6), 0);
        Check.tell(x, "door 0 1;");
        Check.due("a door is not barred as one was", x.door(0, 2), 0);
        Check.due("sheets are no part of it", x.count(5), 4);
    }

    private static void nothingOnString() {
        of("no DOOR is on his STRING, he is not EATEN, nothing is SEEN, HEARD;");
        ThreadMoved x = House.furnished();
        Check.due("a text", x.text(), -15);
        Check.due("one that is refused leaves the string", x.count(0), 2);
        Check.tell(x, "rooms 3;");
        for (int i = 0; i < 3; i++) {
            Check.due("count(" + i + ")", x.count(i), 0);
        }
        Check.due("thread(0)", x.thread(0), NONE);
        x = House.eaten();
        Check.tell(x, "in 1;");
        Check.due("rule(9)", x.rule(9), 0);
        Check.due("go(10)", x.go(10), 1);
    }

    private static void imagesAreGone() {
        of("IMAGES are gone.");
        ThreadMoved x = House.furnished();
        x.keep(1);
        Check.due("a text that is refused", x.text(), -15);
        Check.due("it leaves both", x.count(3), 2);
        Check.tell(x, "");
        Check.due("none", x.count(3), 0);
        Check.due("back(0)", x.back(0), -2);
        Check.due("back(1)", x.back(1), -2);
        Check.due("keep(0)", x.keep(0), 0);
    }
}
