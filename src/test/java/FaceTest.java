import java.io.IOException;
import java.lang.reflect.Method;
import java.lang.reflect.Modifier;
import java.nio.file.Files;
import java.nio.file.Path;
import java.util.Arrays;
import java.util.Set;
import java.util.TreeSet;
import java.util.regex.Matcher;
import java.util.regex.Pattern;
import java.util.stream.Collectors;

/** "The public face", promises 1 and 6 to 9: a new object, and what there is. */
public final class FaceTest {
    private static final Path DOCUMENT = Path.of("../shared/DOC.md");

    public static void main(String[] args) throws IOException {
        documentsFace();
        constants();
        newObject();
        rules();
        doors();
        laws();
        leading();
        Check.finish();
    }

    private static void constants() {
        Check.due("BAD", ThreadMoved.BAD, -1);
        Check.due("STATE", ThreadMoved.STATE, -2);
        Check.due("FULL", ThreadMoved.FULL, -3);
        Check.due("NONE", ThreadMoved.NONE, -4);
    }

    private static void newObject() {
        ThreadMoved x = new ThreadMoved();
        int[] due = {2, 0, 1, 0, 12, 0, 0, -4, 0, 0};
        for (int i = 0; i < due.length; i++) {
            Check.due("rule(" + i + ")", x.rule(i), due[i]);
        }
        int[] counts = {0, 0, 0, 0, 0, -4, 0};
        for (int i = 0; i < counts.length; i++) {
            Check.due("count(" + i + ")", x.count(i), counts[i]);
        }
        Check.due("door(0, 0)", x.door(0, 0), -1);
        Check.due("law(0)", x.law(0), -1);
        Check.due("doors(1)", x.doors(1), 0);
        Check.due("doors(2)", x.doors(2), -1);
        for (int k = 0; k < 4; k++) {
            Check.due("lay of nothing", x.lay(k, 0, 0), -11);
        }
    }

    private static void rules() {
        ThreadMoved x = Check.told("rooms 7;door 6 5;door 0 0 barred;period 6;turn 1 3;bar 0;in 6;beast 4 hungry;string 0;");
        int[] due = {7, 2, 6, 2, 0, 0, 6, 4, 2, 0};
        for (int i = 0; i < due.length; i++) {
            Check.due("rule(" + i + ")", x.rule(i), due[i]);
        }
        Check.due("rule(-1)", x.rule(-1), -1);
        Check.due("rule(10)", x.rule(10), -1);
        Check.due("rule(least)", x.rule(Integer.MIN_VALUE), -1);
        String[] habits = {"sleeps", "left", "hungry", "turns"};
        for (int i = 0; i < 4; i++) {
            Check.due(habits[i], Check.told("beast 1 " + habits[i] + ";").rule(8), i);
        }
    }

    private static void doors() {
        ThreadMoved x = Check.told("rooms 7;door 6 5;door 0 3 barred;");
        int[][] due = {{6, 5, 0}, {0, 3, 1}};
        for (int d = 0; d < 2; d++) {
            for (int i = 0; i < 3; i++) {
                Check.due("door(" + d + ", " + i + ")", x.door(d, i), due[d][i]);
            }
        }
        Check.due("door(2, 0)", x.door(2, 0), -1);
        Check.due("door(-1, 0)", x.door(-1, 0), -1);
        Check.due("door(0, 3)", x.door(0, 3), -1);
        Check.due("door(0, -1)", x.door(0, -1), -1);
    }

    private static void laws() {
        ThreadMoved x = Check.told("door 0 1;".repeat(10) + "swap 9 8;swap 0 1;turn 9 6;turn 0 1;bar 9;bar 0;");
        int[] due = {98, 1, 196, 101, 209, 200};
        for (int k = 0; k < due.length; k++) {
            Check.due("law(" + k + ")", x.law(k), due[k]);
        }
        Check.due("law(6)", x.law(6), -1);
        Check.due("law(-1)", x.law(-1), -1);
        Check.due("law(0) of no rules", Check.told("door 0 1;").law(0), -1);
    }

    private static void leading() {
        ThreadMoved x = Check.told("rooms 4;door 0 1;door 2 0;door 0 0;door 0 3 barred;door 1 2;");
        int[] due = {7, 17, 18, 0};
        for (int i = 0; i < 4; i++) {
            Check.due("doors(" + i + ")", x.doors(i), due[i]);
        }
        Check.due("doors(4)", x.doors(4), -1);
        Check.due("doors(-1)", x.doors(-1), -1);
        Check.due("all ten lead", Check.told("door 0 1;".repeat(10)).doors(1), 1023);
    }

    /** The lines of the document's face, each once, and nothing else that is public. */
    private static void documentsFace() throws IOException {
        if (!Files.exists(DOCUMENT)) {
            System.out.println("there is no " + DOCUMENT + ": the face is not held against it");
            return;
        }
        String document = Files.readString(DOCUMENT);
        int start = document.indexOf("public final class ThreadMoved {");
        Set<String> due = new TreeSet<>();
        Matcher heads = Pattern.compile("public int (\\w+)\\(([^)]*)\\);")
                .matcher(document.substring(start, document.indexOf("```", start)));
        while (heads.find()) {
            due.add(heads.group(1) + "(" + heads.group(2).replaceAll(" \\w+(,|$)", "$1") + ")");
        }
        Check.due("calls of the document's face", due.size(), 36);
        Set<String> found = new TreeSet<>();
        for (Method m : ThreadMoved.class.getDeclaredMethods()) {
            if (Modifier.isPublic(m.getModifiers())) {
                found.add(m.getName() + Arrays.stream(m.getParameterTypes()).map(Class::getName)
                        .collect(Collectors.joining(", ", "(", ")")));
            }
        }
        Check.dueTrue("the face is " + found + ", due is " + due, found.equals(due));
    }
}
