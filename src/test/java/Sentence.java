import java.io.IOException;
import java.nio.file.Files;
import java.nio.file.Path;
import java.util.BitSet;

/**
 * The sentences of the document: a boundary test names the promise and the sentence that it is for, word by word, and
 * in the end no word of the promises and the terms may be left that no test has named.
 */
final class Sentence {
    /** Stands where a promise's number would, for what the document says under "Terms". */
    static final int TERMS = 0;

    private static final int PROMISES = 37;
    private static final Path DOCUMENT = Path.of("../shared/DOC.md");
    private static final String[] SAID = new String[PROMISES + 1];
    private static final BitSet[] NAMED = new BitSet[PROMISES + 1];

    private static String current = "";
    private static int answersBefore = 0;

    private Sentence() {
    }

    /** Where the document is not at hand, the tests run all the same; their words alone are not looked at. */
    static void readDocument() throws IOException {
        if (!Files.exists(DOCUMENT)) {
            System.out.println("there is no " + DOCUMENT + ": the words of the boundary tests are not held against it");
            return;
        }
        String document = Files.readString(DOCUMENT);
        SAID[TERMS] = terms(document);
        for (int p = 1; p <= PROMISES; p++) {
            SAID[p] = promise(document, p);
        }
        for (int p = 0; p <= PROMISES; p++) {
            NAMED[p] = new BitSet();
        }
    }

    private static String oneLine(String text) {
        return text.replaceAll("\\s+", " ").trim();
    }

    private static String between(String text, String from, String to) {
        int start = text.indexOf(from) + from.length();
        return text.substring(start, text.indexOf(to, start));
    }

    private static String terms(String document) {
        String all = between(document, "## Terms\n", "\nAhead of the calls");
        return oneLine(all.replace("```text", "").replace("```", "").replaceAll("======== \\d", ""));
    }

    /** Without its heading and the head of its call. */
    private static String promise(String document, int p) {
        String all = between(document, "## Promise " + p + ": ", "\n## ");
        return oneLine(all.substring(all.indexOf("`: ") + 3));
    }

    private static String place(int promise) {
        return promise == TERMS ? "terms" : "promise " + promise;
    }

    /** Begins a test: the answers from here on are due by these words. */
    static void of(int promise, String words) {
        endTest();
        current = place(promise) + ", \"" + words + "\"";
        Check.about(current);
        if (SAID[promise] != null) {
            name(promise, words);
        }
        answersBefore = Check.answersSoFar();
    }

    private static void name(int promise, String words) {
        int at = SAID[promise].indexOf(words);
        Check.dueTrue("the document says so", at >= 0);
        for (; at >= 0; at = SAID[promise].indexOf(words, at + 1)) {
            NAMED[promise].set(at, at + words.length());
        }
    }

    private static void endTest() {
        boolean tested = current.isEmpty() || Check.answersSoFar() > answersBefore;
        Check.dueTrue("has answers of its own", tested);
    }

    /** Behind all tests: every word has been named. */
    static void finish() {
        endTest();
        for (int p = 0; p <= PROMISES && SAID[p] != null; p++) {
            Check.about(place(p));
            StringBuilder left = new StringBuilder();
            for (int i = 0; i < SAID[p].length(); i++) {
                left.append(NAMED[p].get(i) ? ' ' : SAID[p].charAt(i));
            }
            Check.dueTrue("no test is for: " + oneLine(left.toString()), left.toString().isBlank());
        }
    }
}
