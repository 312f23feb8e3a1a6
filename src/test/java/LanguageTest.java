import java.io.IOException;
import java.nio.file.Files;
import java.nio.file.Path;
import java.util.regex.Matcher;
import java.util.regex.Pattern;

/** Some rules of LANGUAGE.md that can be seen in the words of the source; run at the project's root. */
public final class LanguageTest {
    private static final String[] RULED_OUT = {
        "\\bimport\\b", "\\bpackage\\b", "->", "::", "\\bfinally\\b", "\\bcatch\\b", "\\bassert\\b",
        "\\bsynchronized\\b", "\\bwhile \\(true\\)", "\\b[a-z]+Exact\\b", "\\bprotected\\b",
    };
    private static final int LONGEST_METHOD = 60;
    private static final int MOST_CLASSES = 12;

    public static void main(String[] args) throws IOException {
        Due due = new Due();
        String source = Files.readString(Path.of("src/main/java/OverflowGuards.java"));
        String code = source.replaceAll("(?s)/\\*.*?\\*/", "").replaceAll("//[^\n]*", "");
        for (String word : RULED_OUT) {
            due.yes("the code has no " + word, !Pattern.compile(word).matcher(code).find());
        }
        Matcher classes = Pattern.compile("\\bclass [A-Z]").matcher(code);
        due.yes("at most 12 classes", classes.results().count() <= MOST_CLASSES);
        Matcher texts = Pattern.compile("throw new (\\w+)\\(").matcher(code);
        while (texts.find()) {
            due.yes("the document names " + texts.group(1), texts.group(1).matches(
                    "IllegalArgumentException|IllegalStateException|IndexOutOfBoundsException"));
        }
        // a method's body is closed by a brace that stands as deep as its head
        Matcher methods = Pattern.compile("(?m)^( {4}| {8})(?:public|private) [^;={]*\\([^;{]*\\{\n(?s:.*?)^\\1\\}")
                .matcher(code);
        int found = 0;
        while (methods.find()) {
            found++;
            due.yes("a short method: " + methods.group().split("\n")[0],
                    methods.group().split("\n").length <= LONGEST_METHOD);
        }
        due.yes("methods were found", found > 50);
        due.end();
    }
}
