import java.io.PrintWriter;
import java.io.StringWriter;
import java.util.ArrayList;
import java.util.HashSet;
import java.util.List;
import java.util.Map;
import java.util.Optional;
import java.util.Set;
import java.util.TreeMap;
import java.util.regex.Matcher;
import java.util.regex.Pattern;
import java.util.spi.ToolProvider;

/** Rules of LANGUAGE.md that can be seen in the compiled class: what it calls, how deep, what it makes. */
public final class BytecodeTest {
    private static final int DEEPEST = 8;
    private static final int MOST_PARAMETERS = 7;
    private static final int MOST_FIELDS = 20;
    private static final int MOST_CLASSES = 12;
    private static final Set<String> LIBRARY = Set.of(
            "java/lang/Object.\"<init>\"", "java/lang/Math.min", "java/lang/Math.max", "java/lang/System.arraycopy",
            "java/lang/IllegalArgumentException.\"<init>\"", "java/lang/IllegalStateException.\"<init>\"",
            "java/lang/IndexOutOfBoundsException.\"<init>\"");
    private static final Pattern CLASS = Pattern.compile("^(?:\\w+ )*class (\\S+).* \\{$");
    private static final Pattern METHOD = Pattern.compile("^  [^ ].*?([\\w$]+)\\((.*)\\).*;$");
    private static final Pattern FIELD = Pattern.compile("^  [^ (]+[^(]*;$");
    private static final Pattern CALL = Pattern.compile("// (?:Interface)?Method (\\S+):(\\S+)$");
    private static final Pattern MADE = Pattern.compile(": (?:new|newarray|anewarray|multianewarray) .*// class (\\S+)");
    private static final Due DUE = new Due();

    /** What a method calls, by class, name and descriptor. */
    private static final Map<String, List<String>> CALLED = new TreeMap<>();

    public static void main(String[] args) {
        Optional<ToolProvider> javap = ToolProvider.findFirst("javap");
        if (javap.isEmpty()) {
            System.out.println("javap is not here: the compiled class is not looked at");
            return;
        }
        List<String> names = new ArrayList<>(List.of("OverflowGuards"));
        for (Class<?> inside : OverflowGuards.class.getDeclaredClasses()) {
            names.add(inside.getName());
        }
        DUE.yes("at most 12 classes", names.size() <= MOST_CLASSES);
        for (String name : names) {
            look(told(javap.get(), name));
        }
        int deepest = 0;
        for (String method : CALLED.keySet()) {
            int depth = depth(method, new HashSet<>());
            deepest = Math.max(deepest, depth);
            DUE.yes("calls from " + method + " go " + depth + " deep", depth <= DEEPEST);
        }
        System.out.println("the deepest calls go " + deepest + " deep");
        DUE.yes("methods were found", CALLED.size() > 80 && deepest > 4);
        DUE.end();
    }

    private static List<String> told(ToolProvider javap, String name) {
        StringWriter words = new StringWriter();
        PrintWriter out = new PrintWriter(words);
        DUE.same("javap of " + name,
                javap.run(out, out, "-p", "-c", "-s", "-cp", System.getProperty("java.class.path"), name), 0);
        return words.toString().lines().toList();
    }

    private static void look(List<String> lines) {
        String owner = "";
        String name = "";
        String method = "";
        int fields = 0;
        for (String line : lines) {
            Matcher head = CLASS.matcher(line);
            Matcher named = METHOD.matcher(line);
            if (head.matches()) {
                owner = head.group(1);
            } else if (named.matches()) {
                name = named.group(1).equals(owner) ? "\"<init>\"" : named.group(1);
                int parameters = named.group(2).isEmpty() ? 0 : named.group(2).split(",").length;
                DUE.yes(owner + "." + name + " has at most seven parameters", parameters <= MOST_PARAMETERS);
            } else if (line.startsWith("    descriptor: ") && !name.isEmpty()) {
                method = owner + "." + name + ":" + line.substring("    descriptor: ".length());
                CALLED.put(method, new ArrayList<>());
                name = "";
            } else if (FIELD.matcher(line).matches()) {
                fields += line.contains("static final") ? 0 : 1;
            }
            note(owner, method, line);
        }
        DUE.yes(owner + " has at most some twenty fields", fields <= MOST_FIELDS);
    }

    private static void note(String owner, String method, String line) {
        Matcher call = CALL.matcher(line);
        if (call.find()) {
            String called = call.group(1).contains(".") ? call.group(1) : owner + "." + call.group(1);
            CALLED.get(method).add(called + ":" + call.group(2));
            DUE.yes(method + " calls " + called, !called.startsWith("java") || LIBRARY.contains(called));
        }
        // all rows are made in constructors: a call makes no object but the exception that it throws
        if (line.contains(": newarray") || MADE.matcher(line).find()) {
            DUE.yes(method + " makes something: " + line.strip(),
                    method.contains("<init>") || line.contains("Exception"));
        }
    }

    /** A method that calls itself again counts as too deep: the class has no recursion. */
    private static int depth(String method, Set<String> open) {
        if (!CALLED.containsKey(method)) {
            return 1;
        }
        if (!open.add(method)) {
            return DEEPEST + 1;
        }
        int below = 0;
        for (String called : CALLED.get(method)) {
            below = Math.max(below, depth(called, open));
        }
        open.remove(method);
        return below + 1;
    }
}
