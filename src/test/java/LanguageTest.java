import java.io.IOException;
import java.lang.reflect.Constructor;
import java.lang.reflect.Field;
import java.lang.reflect.Method;
import java.lang.reflect.Modifier;
import java.nio.file.Files;
import java.nio.file.Path;
import java.util.Arrays;
import java.util.Map;
import java.util.Set;
import java.util.TreeMap;
import java.util.TreeSet;
import java.util.regex.Matcher;
import java.util.regex.Pattern;

/** What LANGUAGE.md rules out, as far as the source's words and the compiled classes tell it. */
public final class LanguageTest {
    private static final Path SOURCE = Path.of("src/main/java/ThreadMoved.java");
    private static final Set<String> FACE = Set.of("feed", "end", "text", "fault", "rule", "door", "law", "doors", "bar",
            "period", "put", "lurk", "bite", "go", "dusk", "again", "thread", "leads", "soonest", "alive", "see", "forget",
            "laws", "sure", "hear", "hush", "lair", "wall", "walk", "keep", "back", "sheet", "lay", "read", "torn", "count");

    public static void main(String[] args) throws IOException {
        String source = Files.readString(SOURCE);
        String code = bare(source);
        words(source, code);
        methodLengths(code);
        library(code);
        objectsMade(code);
        openCalls(code);
        face();
        nestedClasses();
        Check.finish();
    }

    /** The source without comments and without what stands in texts. */
    private static String bare(String source) {
        return source.replaceAll("(?s)/\\*.*?\\*/", "").replaceAll("//[^\n]*", "").replaceAll("\"[^\"\n]*\"", "\"\"");
    }

    private static void words(String source, String code) {
        for (String word : new String[] {"throw", "throws", "try", "catch", "finally", "synchronized", "assert", "package",
            "protected", "volatile", "native", "strictfp", "transient", "var", "yield", "Object", "Thread", "Random"}) {
            Check.dueTrue("no " + word, !Pattern.compile("\\b" + word + "\\b").matcher(code).find());
        }
        for (String sign : new String[] {"->", "::", "@", "Exact", "Exception", "][", "System.out", "while (true)", "for (;;)"}) {
            Check.dueTrue("no " + sign, !code.contains(sign));
        }
        Matcher imports = Pattern.compile("import ([^;]+);").matcher(code);
        while (imports.find()) {
            Check.due("import " + imports.group(1), imports.group(1).equals("java.util.Arrays") ? 1 : 0, 1);
        }
        Check.dueTrue("signs 1 to 127 alone", source.chars().allMatch(c -> c >= 1 && c <= 127));
    }

    private static void methodLengths(String code) {
        String[] lines = code.split("\n");
        Pattern head = Pattern.compile("^( {4}| {8})[a-z][\\w\\[\\] ]*\\(.*\\) \\{$|^( {4})public ThreadMoved\\(\\) \\{$");
        int methods = 0;
        for (int i = 0; i < lines.length; i++) {
            Matcher m = head.matcher(lines[i]);
            if (m.find() && !lines[i].trim().matches("(if|for|while|switch) .*")) {
                String close = (lines[i].startsWith("        ") ? "        " : "    ") + "}";
                int end = i;
                while (!lines[end].equals(close)) {
                    end++;
                }
                methods++;
                Check.dueTrue("at most 60 lines: " + lines[i].trim(), end - i < 60);
                Check.dueTrue("at most 7 parameters: " + lines[i].trim(),
                        lines[i].chars().filter(c -> c == ',').count() < 7);
            }
        }
        Check.dueTrue("methods were found", methods > 80);
    }

    /** Rule 4, as far as it is used: whatever else of the library would be called has to be put here first. */
    private static void library(String code) {
        Set<String> allowed = Set.of("Arrays.fill", "System.arraycopy", "Integer.bitCount", "Math.min");
        Matcher calls = Pattern.compile("\\b([A-Z][a-z]\\w*\\.\\w+)").matcher(code.replaceAll("import [^;]+;", ""));
        while (calls.find()) {
            Check.dueTrue("of the library: " + calls.group(1), allowed.contains(calls.group(1)));
        }
        Matcher methods = Pattern.compile("\\bword\\.(\\w+)").matcher(code);
        while (methods.find()) {
            Check.dueTrue("of a text: " + methods.group(1), Set.of("length", "charAt").contains(methods.group(1)));
        }
    }

    /** Rule 12: fields and the constructor make all objects, calls none. */
    private static void objectsMade(String code) {
        for (String line : code.split("\n")) {
            if (line.contains("new ")) {
                boolean field = line.matches(" {4,8}(private )?final [\\w\\[\\]]+ \\w+ = new .*;");
                Check.dueTrue("made with an object: " + line.trim(), field || line.matches(" {12}(images|sheets)\\[k\\] = .*"));
            }
        }
    }

    /** Methods by their names, each with those that it may call; methods of one name are taken together. */
    private static Map<String, Set<String>> callsByName(String code) {
        Map<String, Set<String>> calls = new TreeMap<>();
        Matcher heads = Pattern.compile("(?m)^( {4}| {8})(?! )(?:[\\w\\[\\] ]+ )?(\\w+)\\([^)]*\\) \\{\\n((?s).*?)^\\1\\}")
                .matcher(code);
        while (heads.find()) {
            Set<String> called = calls.computeIfAbsent(heads.group(2), name -> new TreeSet<>());
            Matcher uses = Pattern.compile("\\b(\\w+)\\(").matcher(heads.group(3));
            while (uses.find()) {
                called.add(uses.group(1));
            }
        }
        return calls;
    }

    /** How many calls stand open at once below one, itself counted; above the limit, if it comes to itself. */
    private static int deepest(Map<String, Set<String>> calls, String name, int limit) {
        int most = 0;
        for (String called : calls.get(name)) {
            if (calls.containsKey(called) && limit > 0) {
                most = Math.max(most, deepest(calls, called, limit - 1));
            }
        }
        return most + 1;
    }

    /** Rules 8 and 11: there is no recursion, and calls go at most eight deep. */
    private static void openCalls(String code) {
        Map<String, Set<String>> calls = callsByName(code);
        for (String name : FACE) {
            Check.dueTrue("its body is found: " + name, calls.containsKey(name));
            int deep = deepest(calls, name, 20);
            Check.dueTrue("calls go at most eight deep: " + name + ", " + deep, deep <= 8);
        }
    }

    private static void face() {
        Class<?> c = ThreadMoved.class;
        Check.dueTrue("public and final", Modifier.isPublic(c.getModifiers()) && Modifier.isFinal(c.getModifiers()));
        Set<String> names = new TreeSet<>();
        for (Method m : c.getDeclaredMethods()) {
            if (Modifier.isPublic(m.getModifiers())) {
                Check.dueTrue("of the face, once: " + m, FACE.contains(m.getName()) && names.add(m.getName()));
                Check.dueTrue("answers an int: " + m, m.getReturnType() == int.class && !Modifier.isStatic(m.getModifiers()));
            } else {
                Check.dueTrue("private, of another name: " + m,
                        Modifier.isPrivate(m.getModifiers()) && !FACE.contains(m.getName()));
            }
        }
        Check.due("all of the face", names.size(), FACE.size());
        Set<String> constants = new TreeSet<>();
        for (Field f : c.getDeclaredFields()) {
            if (Modifier.isPublic(f.getModifiers())) {
                constants.add(f.getName());
                Check.dueTrue("a constant: " + f, Modifier.isStatic(f.getModifiers()) && f.getType() == int.class);
            } else {
                Check.dueTrue("private: " + f, Modifier.isPrivate(f.getModifiers()));
            }
        }
        Check.dueTrue("the constants", constants.equals(Set.of("BAD", "STATE", "FULL", "NONE")));
        fields(c);
        Constructor<?>[] constructors = c.getDeclaredConstructors();
        Check.due("one constructor", constructors.length, 1);
        Check.due("without parameters", constructors[0].getParameterCount(), 0);
    }

    private static void nestedClasses() {
        Class<?>[] nested = ThreadMoved.class.getDeclaredClasses();
        Check.dueTrue("at most twelve classes", nested.length < 12);
        for (Class<?> n : nested) {
            Check.dueTrue("static and private: " + n, Modifier.isStatic(n.getModifiers()) && Modifier.isPrivate(n.getModifiers()));
            Check.due("no class inside: " + n, n.getDeclaredClasses().length, 0);
            fields(n);
            for (Method m : n.getDeclaredMethods()) {
                Check.dueTrue("a name of its own: " + m, !FACE.contains(m.getName()));
            }
        }
    }

    private static void fields(Class<?> c) {
        long own = Arrays.stream(c.getDeclaredFields()).filter(f -> !Modifier.isStatic(f.getModifiers())).count();
        Check.dueTrue("at most twenty fields: " + c, own <= 20);
        for (Field f : c.getDeclaredFields()) {
            if (Modifier.isStatic(f.getModifiers())) {
                Check.dueTrue("static and final: " + f, Modifier.isFinal(f.getModifiers()));
            }
        }
    }
}
