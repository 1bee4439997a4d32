import java.io.IOException;
import java.nio.file.Files;
import java.nio.file.Path;
import java.util.regex.Matcher;
import java.util.regex.Pattern;

/** The rules of LANGUAGE.md that can be told by looking for words; run at the root of the project. */
public final class LanguageTest {
    private static final Due DUE = new Due();
    private static final String[] RULED_OUT = {
        "\\bpackage\\b", "\\bimport\\b", "\\bthrows?\\b", "\\btry\\b", "\\bcatch\\b", "\\bfinally\\b",
        "\\bsynchronized\\b", "\\bassert\\b", "->", "::", "\\bprotected\\b", "\\bSystem\\b", "\\bObject\\b",
        "\\bThread\\b", "Exact\\b", "\\bvar\\b", "\\bstatic\\s*\\{", "\"", "\\bhashCode\\b", "\\btoString\\b"};
    private static final String FACE =
        "set|roof|come|go|height|stand|shuffle|play|read|booth|pitch|seen|count|lot|ifStood|bestPitch|ifPlayed"
        + "|bestHeight|put|wipe|fault|undo|save|restore";

    public static void main(String[] args) throws IOException {
        String source = Files.readString(Path.of("src/main/java/PuppetPitches.java"));
        String program = source.replaceAll("(?s)/\\*.*?\\*/", "").replaceAll("//[^\n]*", "");
        for (String word : RULED_OUT) {
            DUE.is("times that " + word + " stands there", count(word, program), 0);
        }
        DUE.is("public members", count("\\bpublic\\b", program), 1 + 2 + 1 + 24);
        DUE.is("methods with the names of the face",
            count("(?m)^ {4,}(?!return|public)[\\w\\[\\] ]*\\w (" + FACE + ")\\(", program), 0);
        DUE.is("members of the face that are package-visible",
            count("(?m)^ {4}(?!public|private|\\})\\S", program), 0);
        DUE.end();
    }

    private static int count(String word, String program) {
        int times = 0;
        Matcher matcher = Pattern.compile(word).matcher(program);
        while (matcher.find()) {
            times++;
        }
        return times;
    }
}
