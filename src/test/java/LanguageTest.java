import java.io.IOException;
import java.lang.reflect.Field;
import java.lang.reflect.Method;
import java.lang.reflect.Modifier;
import java.nio.file.Files;
import java.nio.file.Path;
import java.util.HashMap;
import java.util.HashSet;
import java.util.Map;
import java.util.Set;
import java.util.regex.Matcher;
import java.util.regex.Pattern;

/** The rules of LANGUAGE.md that can be told by looking at the program's text and its classes; run at the root of the project. */
public final class LanguageTest {
    private static final Due DUE = new Due();
    private static final String[] RULED_OUT = {
        "\\bpackage\\b", "\\bimport\\b", "\\bthrows?\\b", "\\btry\\b", "\\bcatch\\b", "\\bfinally\\b",
        "\\bsynchronized\\b", "\\bassert\\b", "->", "::", "\\bprotected\\b", "\\bSystem\\b", "\\bObject\\b",
        "\\bThread\\b", "Exact\\b", "\\bvar\\b", "\\bstatic\\s*\\{", "\"", "\\bhashCode\\b", "\\btoString\\b"};
    private static final String FACE =
        "set|roof|come|go|height|stand|shuffle|play|read|booth|pitch|seen|count|lot|ifStood|bestPitch|ifPlayed"
        + "|bestHeight|put|wipe|fault|undo|save|restore";
    /** Rules 3, 4 and 13: the names that begin with a capital letter, and what is used of the library's classes. */
    private static final Set<String> NAMES =
        Set.of("PuppetPitches", "State", "Stream", "View", "Day", "Pad", "History", "Math", "Integer");
    private static final Set<String> LIBRARY = Set.of("Math.min", "Math.max", "Math.abs", "Integer.bitCount");
    /** A method's head at the end of a line: its indent and its name. */
    private static final Pattern HEAD =
        Pattern.compile("(?m)^( {4}| {8})(?!return|else|new)(?:[\\w\\[\\]]+ )*(\\w+)\\([^()]*\\) \\{$");
    private static final Pattern CALL = Pattern.compile("(?<!new )\\b([a-z]\\w*)\\(");

    public static void main(String[] args) throws IOException {
        String source = Files.readString(Path.of("src/main/java/PuppetPitches.java"));
        String program = source.replaceAll("(?s)/\\*.*?\\*/", "").replaceAll("//[^\n]*", "");
        for (String word : RULED_OUT) {
            DUE.is("times that " + word + " stands there", count(word, program), 0);
        }
        DUE.is("1: public members", count("\\bpublic\\b", program), 1 + 2 + 1 + 24);
        DUE.is("1: methods with the names of the face",
            count("(?m)^ {4,}(?!return|public)[\\w\\[\\] ]*\\w (" + FACE + ")\\(", program), 0);
        DUE.is("1: members of the face that are package-visible",
            count("(?m)^ {4}(?!public|private|\\})\\S", program), 0);
        DUE.is("10: a switch for each of booth, pitch, count and the pad", count("\\bswitch\\b", program), 4);
        names(program);
        classes();
        methods(program);
        DUE.end();
    }

    private static int count(String word, String program) {
        int times = 0;
        Matcher matcher = Pattern.compile(word).matcher(program);
        while (matcher.find()) {
            times++;
        }
        return times;
    }

    private static void names(String program) {
        Matcher name = Pattern.compile("\\b[A-Z]\\w*[a-z]\\w*(\\.[a-z]\\w*)?").matcher(program);
        while (name.find()) {
            String told = name.group();
            String first = told.split("\\.")[0];
            DUE.is("3: the name " + told, NAMES.contains(first) ? 1 : 0, 1);
            if (first.equals("Math") || first.equals("Integer")) {
                DUE.is("4: of the library " + told, LIBRARY.contains(told) ? 1 : 0, 1);
            }
        }
    }

    private static void classes() {
        Class<?>[] inside = PuppetPitches.class.getDeclaredClasses();
        DUE.is("11: some twelve classes", inside.length <= 12 ? 1 : 0, 1);
        about(PuppetPitches.class);
        for (Class<?> one : inside) {
            DUE.is("2: static and private, " + one, one.getModifiers() & (Modifier.STATIC | Modifier.PRIVATE),
                Modifier.STATIC | Modifier.PRIVATE);
            DUE.is("2: no class inside it, " + one, one.getDeclaredClasses().length, 0);
            about(one);
        }
    }

    private static void about(Class<?> one) {
        int fields = 0;
        for (Field field : one.getDeclaredFields()) {
            boolean isStatic = Modifier.isStatic(field.getModifiers());
            fields += isStatic ? 0 : 1;
            DUE.is("5: final, if it is static, " + field, isStatic && !Modifier.isFinal(field.getModifiers()) ? 1 : 0, 0);
            DUE.is("3: one dimension at most, " + field, field.getType().getName().startsWith("[[") ? 1 : 0, 0);
        }
        DUE.is("11: some twenty fields, " + one, fields <= 20 ? 1 : 0, 1);
        for (Method method : one.getDeclaredMethods()) {
            DUE.is("11: seven parameters, " + method, method.getParameterCount() <= 7 ? 1 : 0, 1);
        }
    }

    /** Rules 8 and 11: short methods, no recursion, and calls that go eight deep at most; methods of one name count as one. */
    private static void methods(String program) {
        Map<String, Set<String>> calls = new HashMap<>();
        Matcher head = HEAD.matcher(program);
        while (head.find()) {
            String end = "\n" + head.group(1) + "}";
            String body = program.substring(head.end(), program.indexOf(end, head.end()) + 1);
            DUE.is("11: lines of " + head.group(2), body.lines().count() <= 60 ? 1 : 0, 1);
            Set<String> called = calls.computeIfAbsent(head.group(2), name -> new HashSet<>());
            Matcher call = CALL.matcher(body);
            while (call.find()) {
                called.add(call.group(1));
            }
        }
        for (Set<String> called : calls.values()) {
            called.retainAll(calls.keySet());
        }
        for (String name : FACE.split("\\|")) {
            DUE.is("the text has " + name, calls.containsKey(name) ? 1 : 0, 1);
        }
        for (String name : calls.keySet()) {
            DUE.is("11: calls at most eight deep from " + name, depth(name, calls, 0) <= 8 ? 1 : 0, 1);
        }
    }

    private static int depth(String name, Map<String, Set<String>> calls, int above) {
        int deepest = 0;
        if (above < 20) {
            for (String called : calls.get(name)) {
                deepest = Math.max(deepest, depth(called, calls, above + 1));
            }
        }
        return deepest + 1;
    }
}
