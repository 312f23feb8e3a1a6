import java.io.File;
import java.io.IOException;
import java.nio.file.Files;
import java.nio.file.Path;
import java.nio.file.StandardCopyOption;
import java.util.ArrayList;
import java.util.Collections;
import java.util.List;
import java.util.regex.Matcher;
import java.util.regex.Pattern;
import java.util.stream.Stream;

/**
 * README.md is there, the calls in it answer what it says, and the commands that it names work, .ci/run
 * among them: that one in a small project of its own, with tests that fail, too. Run at the project's root.
 */
public final class ReadmeTest {
    private static final String[] NAMED = {
        "new OverflowGuards()", "append(", "parse()", "clearText()", "setRange(", "setInput(", "input(",
        "state(", "states(", "coveredBy(", "range(", "finalRange(", "completes()", "failure(", "result(",
        "checks(", "executed()", "saving()", "openWith(", "safePower(", "failingInput(", "remove(", "undo()",
        "undoable", "512", "../shared/DOC.md", "../shared/tests", "src/test/java",
    };
    private static final Pattern CALL = Pattern.compile("(?m)^(guards\\.\\w+\\(.*\\)); *// ([^:\n]+): .*$");
    private static final Due DUE = new Due();
    private static final Path HERE = Path.of("").toAbsolutePath();

    public static void main(String[] args) throws IOException, InterruptedException {
        Path readme = HERE.resolve("README.md");
        DUE.yes("README.md is there", Files.isRegularFile(readme));
        String text = Files.exists(readme) ? Files.readString(readme) : "";
        for (String name : NAMED) {
            DUE.yes("README.md tells of " + name, text.contains(name));
        }
        for (String name : new File("src/test/java").list()) {
            boolean isTest = name.endsWith("Test.java");
            DUE.yes("README.md names " + name, !isTest || text.contains("`" + name.replace(".java", "") + "`"));
        }
        Path room = Files.createTempDirectory("readme");
        try {
            calls(room.resolve("calls"), text);
            commands(room.resolve("main"), text);
            runScript(room.resolve("small"));
        } finally {
            removeAll(room);
        }
        DUE.end();
    }

    private static List<String> blocks(String text, String language) {
        List<String> all = new ArrayList<>();
        Matcher block = Pattern.compile("(?s)```" + language + "\n(.*?)```").matcher(text);
        while (block.find()) {
            all.add(block.group(1));
        }
        return all;
    }

    /** What the command prints is shown only if it does not end as due. */
    private static void ends(Path at, String command, int due) throws IOException, InterruptedException {
        Process process = new ProcessBuilder("sh", "-c", command).directory(at.toFile())
                .redirectErrorStream(true).start();
        process.getOutputStream().close();
        String words = new String(process.getInputStream().readAllBytes());
        int code = process.waitFor();
        DUE.same("the end of " + command, code, due);
        if (code != due) {
            System.out.println(words);
        }
    }

    // ---- the calls

    /** All blocks together are one run of calls on one object. */
    private static void calls(Path room, String text) throws IOException, InterruptedException {
        String calls = String.join("", blocks(text, "java"));
        DUE.yes("README.md has calls with answers", CALL.matcher(calls).results().count() > 30);
        String asking = CALL.matcher(calls).replaceAll(
                found -> Matcher.quoteReplacement("due(\"" + found.group(1) + "\", " + found.group(1)
                        + ", \"" + found.group(2).strip() + "\");"));
        Files.createDirectories(room);
        Files.writeString(room.resolve("Example.java"), """
                final class Example {
                    private static int wrong = 0;
                    static void due(String call, Object got, String want) {
                        if (!("" + got).equals(want)) {
                            wrong++;
                            System.out.println(call + " answered " + got + ", README.md has " + want);
                        }
                    }
                    public static void main(String[] args) {
                """ + asking + """
                        System.exit(wrong == 0 ? 0 : 1);
                    }
                }
                """);
        copy("src/main/java/OverflowGuards.java", room.resolve("OverflowGuards.java"));
        ends(room, "javac -d . OverflowGuards.java Example.java", 0);
        ends(room, "java -cp . Example", 0);
    }

    // ---- the commands

    private static void commands(Path copy, String text) throws IOException, InterruptedException {
        copyAll("src", copy);
        copyAll(".ci", copy);
        copy("README.md", copy.resolve("README.md"));
        Files.createSymbolicLink(copy.resolveSibling("shared"), HERE.resolveSibling("shared"));
        int named = 0;
        for (String line : String.join("", blocks(text, "sh")).split("\n")) {
            named++;
            // this test is part of what .ci/run does: runScript() has it in a smaller project
            if (!line.equals(".ci/run")) {
                ends(copy, line, 0);
            }
        }
        DUE.yes("README.md names commands", named >= 5);
        DUE.yes("README.md names .ci/run", text.contains("\n.ci/run\n"));
        DUE.yes(".ci/run can be run", Files.isExecutable(HERE.resolve(".ci/run")));
    }

    private static void runScript(Path small) throws IOException, InterruptedException {
        Path project = small.resolve("main");
        Path own = project.resolve("src/test/java");
        Path shared = small.resolve("shared/tests");
        Files.createDirectories(shared);
        copyAll(".ci", project);
        copyAll("src/main", project);
        for (String name : new String[] {"ExamplesTest.java", "Calls.java", "Due.java"}) {
            copy("src/test/java/" + name, own.resolve(name));
        }
        writeTest(own, "ExtraTest", 0);
        writeTest(shared, "Runs", 0);
        ends(project, ".ci/run", 0);
        writeTest(own, "ExtraTest", 1);
        ends(project, ".ci/run", 1);
        writeTest(own, "ExtraTest", 0);
        writeTest(shared, "More", 1);
        ends(small, "main/.ci/run", 1);
        Files.writeString(shared.resolve("More.java"), "no Java");
        ends(small, "main/.ci/run", 1);
    }

    private static void writeTest(Path directory, String name, int code) throws IOException {
        Files.writeString(directory.resolve(name + ".java"), "public final class " + name + " {\n"
                + "    public static void main(String[] args) {\n"
                + "        System.exit(new OverflowGuards().instructions() + " + code + ");\n    }\n}\n");
    }

    // ---- files

    private static void copy(String name, Path to) throws IOException {
        Files.createDirectories(to.getParent());
        Files.copy(HERE.resolve(name), to, StandardCopyOption.COPY_ATTRIBUTES);
    }

    /** A directory of the project with all that is in it, at the same place in another one. */
    private static void copyAll(String directory, Path project) throws IOException {
        for (Path path : below(HERE.resolve(directory))) {
            if (Files.isRegularFile(path)) {
                String name = HERE.relativize(path).toString();
                copy(name, project.resolve(name));
            }
        }
    }

    private static List<Path> below(Path top) throws IOException {
        try (Stream<Path> all = Files.walk(top)) {
            return new ArrayList<>(all.toList());
        }
    }

    /** What is inside comes ahead of its directory; links are not followed. */
    private static void removeAll(Path top) throws IOException {
        List<Path> all = below(top);
        Collections.reverse(all);
        for (Path path : all) {
            Files.delete(path);
        }
    }
}
