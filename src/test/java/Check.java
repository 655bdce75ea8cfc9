import java.nio.charset.StandardCharsets;

/** What every test needs: to say which answer is due, and to give a text to an object. */
final class Check {
    private static int wrong = 0;
    private static int done = 0;
    private static String about = "";

    private Check() {
    }

    /** What the answers due from here on are about: it stands ahead of each that is wrong. */
    static void about(String what) {
        about = what + ": ";
    }

    static int answersSoFar() {
        return done;
    }

    static void due(String call, long got, long want) {
        done++;
        if (got != want) {
            wrong++;
            System.out.println(about + call + " answered " + got + ", due is " + want);
        }
    }

    static void dueTrue(String what, boolean is) {
        due(what, is ? 1 : 0, 1);
    }

    /** Ends a test: exit code 1, if an answer was not as due. */
    static void finish() {
        if (done == 0 || wrong != 0) {
            System.out.println(wrong + " of " + done + " answers are not as due");
            System.exit(1);
        }
    }

    /** Lays a text on the tape, which is empty: eight bytes a call, the rest cut off. */
    static void lay(ThreadMoved x, String text) {
        byte[] bytes = text.getBytes(StandardCharsets.ISO_8859_1);
        for (int i = 0; i < bytes.length; i += 8) {
            x.feed(eight(bytes, i));
        }
        x.end(bytes.length);
    }

    static long eight(byte[] bytes, int from) {
        long v = 0;
        for (int i = from; i < from + 8; i++) {
            v = v << 8 | (i < bytes.length ? bytes[i] & 0xff : ' ');
        }
        return v;
    }

    static int tell(ThreadMoved x, String text) {
        lay(x, text);
        return x.text();
    }

    /** A text that has to be taken. */
    static void taken(String text, int lines) {
        ThreadMoved x = new ThreadMoved();
        due("text: " + text, tell(x, text), lines);
        due("fault of " + text, x.fault(), 0);
    }

    /** A text that has to be refused, on a new object. */
    static void faulty(String text, int kind, int place) {
        ThreadMoved x = new ThreadMoved();
        due("text: " + text, tell(x, text), -10 - place);
        due("fault of " + text, x.fault(), kind);
    }

    /** A new object with a text that has to be taken. */
    static ThreadMoved told(String text) {
        ThreadMoved x = new ThreadMoved();
        dueTrue("text is taken: " + text, tell(x, text) >= 0);
        return x;
    }
}
