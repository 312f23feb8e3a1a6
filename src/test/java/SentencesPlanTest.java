import java.io.IOException;
import java.nio.file.Files;
import java.nio.file.Path;
import java.util.regex.Matcher;
import java.util.regex.Pattern;

/** The document from 'Joining' up to its examples and constants, sentence by sentence. */
public final class SentencesPlanTest {
    private static final int MIN = Integer.MIN_VALUE;
    private static final int MAX = Integer.MAX_VALUE;
    private static final int NONE = OverflowGuards.NONE;
    private static final int DROPPED = 1;
    private static final int JOINED = 2;
    private static final int HOISTED = 3;
    private static final int KEPT = 4;
    private static final Due DUE = new Due();
    private static final Document DOC = new Document(DUE, "Joining. The instruction", "## Promise 1:");

    public static void main(String[] args) throws IOException {
        joining();
        hoisting();
        plainRun();
        checksAhead();
        remainingChecks();
        notAlwaysThePlainRun();
        outcomes();
        text();
        errors();
        undo();
        exceptions();
        examples();
        constants();
        partsOfTheInterface();
        DOC.end();
        DUE.end();
    }

    private static void same(String what, long got, long want) {
        DUE.same(what, got, want);
    }

    /** a to d may be 0 to MAX, e to h are 0 to 100. */
    private static OverflowGuards wide(String text) {
        OverflowGuards x = Due.with(text);
        for (int v = 0; v < 4; v++) {
            x.setRange(v, 0, MAX);
        }
        return x;
    }

    private static void states(String text, int... due) {
        OverflowGuards x = wide(text);
        same("instructions of " + text, x.instructions(), due.length);
        for (int i = 0; i < due.length; i++) {
            same("state of " + i + " in " + text, x.state(i), due[i]);
        }
    }

    private static void covers(String text, int i, int j) {
        same("cover of " + i + " in " + text, wide(text).coveredBy(i), j);
    }

    // ---- Joining

    private static void joining() {
        DOC.says("Joining. The instruction i, a sum with the variable v as its result, whose check can fail, "
                + "is covered by the instruction j, a later one, if all of this holds:");
        covers("e=a+b;f=e+c;", 0, 1);
        covers("e=a*b;f=e+c;", 0, NONE);
        covers("e=a-_9;f=e+c;", 0, NONE);
        covers("e=a;f=e+c;", 0, NONE);
        covers("e=g+h;f=e+c;", 0, NONE);
        covers("2{f=e+c;e=a+b;}", 2, NONE);
        DOC.says("no instruction from i + 1 to j is a loop begin or a loop end;");
        covers("e=a+b;1{f=e+c;}", 0, NONE);
        covers("1{e=a+b;}f=e+c;", 1, NONE);
        covers("e=a+b;1{}f=e+c;", 0, NONE);
        covers("1{e=a+b;f=e+c;}", 1, 2);
        DOC.says("j is a sum whose check can fail, with v as exactly one of its operands;");
        covers("e=a+b;f=c+e;", 0, 1);
        covers("e=a+b;f=e*c;", 0, NONE);
        covers("e=a+b;f=e-c;", 0, NONE);
        covers("e=a+b;f=e+0;", 0, NONE);
        covers("e=a+b;f=e+e;", 0, NONE);
        covers("e=a+b;f=a+c;", 0, NONE);
        DOC.says("no instruction from i + 1 to j - 1 has v as its result or as an operand, has a check that "
                + "can fail, or has an operand of i or the other operand of j as its result;");
        for (String between : new String[] {"e=e;", "e=7;", "g=e;", "g=1-e;", "g=a+b;", "a=7;", "b=7;", "c=7;"}) {
            covers("e=a+b;" + between + "f=e+c;", 0, NONE);
        }
        for (String between : new String[] {"f=7;", "g=a;", "g=h+h;", "h=a-b;", "d=7;"}) {
            covers("e=a+b;" + between + "f=e+c;", 0, 2);
        }
        DOC.says("at every execution of i and of j in the analysis, the operands of i, and the operand of j "
                + "other than v, have ranges without negative numbers.");
        for (int v = 0; v < 3; v++) {
            OverflowGuards x = wide("e=a+b;f=e+c;");
            x.setRange(v, -1, MAX);
            same("negative numbers of " + v, x.coveredBy(0), NONE);
            x.setRange(v, 0, MAX);
            same("no negative numbers of " + v, x.coveredBy(0), 1);
            OverflowGuards turned = wide("e=b+a;f=c+e;");
            turned.setRange(v, -1, MAX);
            same("negative numbers of " + v + ", operands turned", turned.coveredBy(0), NONE);
            String down = (char) ('a' + v) + "=_1;";
            same("negative in the second round, " + v, wide("2{e=a+b;f=e+c;" + down + "}").coveredBy(1), NONE);
            same("in one round, " + v, wide("1{e=a+b;f=e+c;" + down + "}").coveredBy(1), 2);
        }
        DOC.says("(There is at most one such j.)");
        covers("e=a+b;f=e+c;g=e+d;", 0, 1);
        covers("e=a+b;f=e+c;g=f+d;", 0, 1);
        covers("e=a+b;f=e+c;g=f+d;", 1, 2);
    }

    // ---- Hoisting

    private static void hoisting() {
        DOC.says("Hoisting. The instruction i is moved in front of the innermost loop in which it lies, if it "
                + "is a sum v = v + k (or v = k + v) whose check can fail, which is not joined and does not "
                + "cover another one, k is a constant or a variable other than v, and neither v nor k is the "
                + "result of any other instruction in that loop, loops inside included; and i lies directly "
                + "in the loop.");
        states("2{e=e+a;}", NONE, HOISTED, NONE);
        states("2{e=a+e;}", NONE, HOISTED, NONE);
        states("2{a=a+7;}", NONE, HOISTED, NONE);
        states("a=a+7;", KEPT);
        states("2{}a=a+7;2{}", NONE, NONE, KEPT, NONE, NONE);
        states("2{e=a+b;}", NONE, KEPT, NONE);
        states("2{a=a-_7;}", NONE, KEPT, NONE);
        states("2{a=a*7;}", NONE, KEPT, NONE);
        states("2{e=e+h;}", NONE, DROPPED, NONE);
        states("2{e=e+a;f=e+b;}", NONE, JOINED, KEPT, NONE);
        states("2{e=a+b;f=f+e;}", NONE, JOINED, KEPT, NONE);
        states("2{a=a+a;}", NONE, KEPT, NONE);
        states("2{e=e+a;e=h;}", NONE, KEPT, NONE, NONE);
        states("2{a=b;e=e+a;}", NONE, NONE, KEPT, NONE);
        states("2{e=e+a;2{a=b;}}", NONE, KEPT, NONE, NONE, NONE, NONE);
        states("2{2{e=e;}e=e+a;}", NONE, NONE, NONE, NONE, KEPT, NONE);
        states("2{a=b;2{e=e+a;}}", NONE, NONE, NONE, HOISTED, NONE, NONE);
        same("in front of the innermost loop", wide("2{3{e=e+a;}}").checks(true), 2);
    }

    // ---- Runs

    private static void plainRun() {
        DOC.says("Runs. A plain run executes the program with the inputs and all checks.");
        OverflowGuards x = wide("e=a+b;f=e+c;3{g=g+d;}h=h-1;");
        x.setInput(0, 8);
        x.setInput(3, 5);
        x.setInput(7, 2);
        same("checks", x.checks(false), 6);
        int[] values = {8, 0, 0, 5, 8, 8, 15, 1};
        for (int v = 0; v < 8; v++) {
            same("value of " + v, x.result(v, false), values[v]);
        }
    }

    private static void checksAhead() {
        DOC.says("An optimized run executes it with the inputs like this: at a loop begin, each time when it "
                + "is reached, for each hoisted instruction that lies directly in the loop, in ascending "
                + "order, a check is done whether v + n * k (with the present values) is in the int range; if "
                + "it is, the instruction has no checks while the loop is executed this time, otherwise it is "
                + "checked each time.");
        OverflowGuards x = wide("3{e=e+a;7{f=f+b;}g=c+g;}");
        x.setInput(4, 1);
        same("two at the outer loop, one at each inner one", x.checks(true), 2 + 3);
        x.setInput(0, 715827882);
        same("1 + 3 * 715827882 = MAX", x.checks(true), 2 + 3);
        same("its result", x.result(4, true), MAX);
        x.setInput(4, 2);
        // two rounds go through, each with a check of e and one at the inner loop; the third check fails
        same("2 + 3 * 715827882 > MAX", x.checks(true), 2 + 1 + 1 + 1 + 1 + 1);
        same("it fails", x.failure(true), 1);
        x.setInput(0, 0);
        x.setInput(1, 102261127);
        same("21 * 102261127 > MAX: the third time", x.checks(true), 2 + 1 + 1 + 1 + 7);
        x.setInput(1, 102261126);
        same("21 * 102261126 = MAX - 1", x.checks(true), 2 + 3);
        OverflowGuards turned = wide("5{a=b+a;}");
        turned.setInput(0, 2);
        turned.setInput(1, 429496729);
        same("2 + 5 * 429496729 = MAX", turned.checks(true), 1);
        turned.setInput(0, 3);
        same("3 + 5 * 429496729 > MAX", turned.checks(true), 1 + 5);
        OverflowGuards down = Due.with("4{a=a+_5;}");
        down.setRange(0, MIN, 0);
        down.setInput(0, MIN + 20);
        same("MIN", down.checks(true), 1);
        down.setInput(0, MIN + 19);
        same("below MIN", down.checks(true), 1 + 4);
    }

    private static OverflowGuards sums(String text, int a, int b, int c) {
        OverflowGuards x = wide(text);
        x.setInput(0, a);
        x.setInput(1, b);
        x.setInput(2, c);
        return x;
    }

    private static void remainingChecks() {
        DOC.says("Dead and dropped instructions have no checks.");
        OverflowGuards dead = Due.with("c=h+1;d=h-1;b=a*2;e=h*1;");
        dead.setRange(0, MAX, MAX);
        same("the one where the analysis ends alone", dead.checks(true), 1);
        same("all up to it", dead.checks(false), 3);
        dead.setRange(0, 5, 6);
        same("all are dropped", dead.checks(true), 0);
        DOC.says("A joined instruction has no check; its exact result is kept as the value of v.");
        same("no check of the joined one", sums("e=a+b;f=e+c;", 1, 2, 3).checks(true), 1);
        same("its result", sums("e=a+b;f=e+c;", 1, 2, 3).result(4, true), 3);
        // as an int a + b would be MIN, and MIN + 0 is an int: the exact one is not
        same("its exact result", sums("e=a+b;f=e+c;", MAX, 1, 0).failure(true), 0);
        DOC.says("Kept ones are checked; the check of an instruction that covers another one fails if its "
                + "exact result is not in the int range.");
        same("kept ones", sums("e=a*b;f=a-_1;g=a+b;", 1, 2, 3).checks(true), 3);
        same("MAX", sums("e=a+b;f=e+c;", MAX - 5, 2, 3).failure(true), NONE);
        same("over MAX", sums("e=a+b;f=e+c;", MAX - 5, 2, 4).failure(true), 1);
        same("over MAX before", sums("e=a+b;f=e+c;", MAX - 5, 6, 0).failure(true), 0);
    }

    /**
     * Taken by the word, an exact result above MAX may go down again before the covering check: e is
     * used behind its cover, while the row of covers goes on; or the analysis ends at the first of the
     * row in a round in which a later one has a negative operand. Then the optimized run does not fail.
     */
    private static void notAlwaysThePlainRun() {
        OverflowGuards x = sums("e=a+b;f=e+c;g=d-e;f=f+c;f=f+g;", MAX, 5, 0);
        x.setRange(3, MAX, MAX);
        int[] due = {JOINED, JOINED, DROPPED, JOINED, KEPT};
        for (int i = 0; i < due.length; i++) {
            same("state of " + i + " in a row of covers", x.state(i), due[i]);
        }
        same("the plain run fails", x.failure(false), 0);
        same("the last cover's exact result is MAX", x.failure(true), NONE);
        same("f", x.result(5, true), MAX);
        same("g is computed with the exact result", x.result(6, true), -5);
        same("one check", x.checks(true), 1);
        OverflowGuards ends = wide("2{e=a+b;f=e+c;g=f+d;b=9999*9999;b=b*21;a=b;d=0-b;}");
        same("the first of the row", ends.coveredBy(1), 2);
        same("the second of the row", ends.coveredBy(2), 3);
        DUE.yes("the analysis ends at the first in the second round", !ends.completes());
        same("the plain run fails there", ends.failure(false), 1);
        same("the last cover's exact result is an int", ends.failure(true), NONE);
        same("g", ends.result(6, true), 9999 * 9999 * 21);
        same("a check in each round", ends.checks(true), 2);
    }

    private static void outcomes() {
        DOC.says("If a check of an instruction fails, the optimized run ends, and its outcome is that of the "
                + "plain run.");
        OverflowGuards x = sums("d=4;e=a+b;g=9;f=e+c;h=1;", MAX, 1, 0);
        int[] values = {MAX, 1, 0, 4, 0, 0, 0, 0};
        for (int mode = 0; mode < 2; mode++) {
            same("failure", x.failure(mode == 1), 1);
            for (int v = 0; v < 8; v++) {
                same("value of " + v, x.result(v, mode == 1), values[v]);
            }
        }
        DOC.says("The outcome of a run consists of the number of the instruction at which it has failed, or "
                + "NONE, and of the values of all variables at its end.");
        OverflowGuards fails = sums("b=8;c=a*b;", MAX, 0, 0);
        OverflowGuards goes = sums("b=8;c=a*b;", 9, 0, 0);
        for (int mode = 0; mode < 2; mode++) {
            same("its number", fails.failure(mode == 1), 1);
            same("a at its end", fails.result(0, mode == 1), MAX);
            same("b at its end", fails.result(1, mode == 1), 8);
            same("NONE", goes.failure(mode == 1), -1);
            same("c at its end", goes.result(2, mode == 1), 72);
            same("h at its end", goes.result(7, mode == 1), 0);
        }
        DOC.says("The number of checks of a run is how many checks it has done, the failed one included; for "
                + "an optimized run the checks at loop begins are included.");
        same("the failed one, plain", fails.checks(false), 1);
        same("the failed one, optimized", fails.checks(true), 1);
        OverflowGuards loop = sums("5{e=e+a;}f=a*b;", 7, 7, 0);
        same("plain", loop.checks(false), 6);
        same("one at the loop begin", loop.checks(true), 2);
    }

    // ---- Program text

    private static void good(String text, int instructions) {
        same("parse of " + text, Due.parsed(new OverflowGuards(), text), instructions);
    }

    private static void errorAt(int position, String text) {
        same("parse of " + text, Due.parsed(new OverflowGuards(), text), -10 - position);
    }

    private static void text() {
        DOC.says("Program text. The text has at most 200 bytes: a sequence of statements, possibly none: a "
                + "letter a to h, \"=\", an operand, optionally \"+\", \"-\" or \"*\" and another operand, and a "
                + "semicolon; or a count, \"{\", statements, and \"}\".");
        OverflowGuards x = new OverflowGuards();
        Due.write(x, "a=1000+1000;".repeat(16) + "b=1;c=2;");
        DUE.refuses("byte 201", x, IllegalStateException.class, () -> x.append(';'));
        same("200 bytes", x.parse(), 18);
        good("", 0);
        good("a=h;", 1);
        good("h=a+b;g=a-b;f=a*b;", 3);
        good("2{a=1;3{b=2;c=3;}}", 7);
        good("2{}", 2);
        errorAt(3, "a=b/c;");
        errorAt(3, "a=b");
        errorAt(0, "i=a;");
        errorAt(0, "{a=1;}");
        errorAt(0, "}");
        DOC.says("An operand is a letter a to h, or an optional \"_\" (a minus sign) and one to four digits.");
        good("a=0;b=12;c=123;d=1234;e=_1;f=_1234;g=h;", 7);
        errorAt(2, "a=i;");
        errorAt(3, "a=_;");
        errorAt(3, "a=__1;");
        errorAt(6, "a=12345;");
        OverflowGuards minus = Due.with("a=_0123;b=5-_5;");
        same("a minus sign", minus.result(0, false), -123);
        same("a minus sign of the second operand", minus.result(1, false), 10);
        DOC.says("A count has one or two digits.");
        good("1{}12{}03{}", 6);
        errorAt(2, "123{}");
        errorAt(0, "_1{}");
        DOC.says("There are no spaces.");
        errorAt(0, " a=1;");
        errorAt(1, "a =1;");
        errorAt(4, "a=1; ");
        errorAt(1, "2 {}");
    }

    private static void errors() {
        DOC.says("The syntax error position is the index of the first byte that cannot stand where it stands, "
                + "or the length of the text if the text ends too early.");
        errorAt(4, "a=1;?;?");
        errorAt(5, "2{3{}");
        for (int length = 1; length < 6; length++) {
            errorAt(length, "a=b+c;".substring(0, length));
        }
        DOC.says("For a count that is not 1 to 40 it is the index of its first digit, found when the count is "
                + "complete, that is, when a byte that is no digit, or the end of the text, follows it; a "
                + "fifth digit of an operand and a third one of a count cannot stand; the first digit of the "
                + "count of a loop inside two others cannot stand; the first byte of a 31st instruction "
                + "cannot stand (a loop end, \"}\", is an instruction, too).");
        for (String count : new String[] {"0", "00", "41", "99"}) {
            errorAt(4, "a=1;" + count);
            errorAt(4, "a=1;" + count + "{");
            errorAt(4, "a=1;" + count + "a");
            errorAt(4 + 2, "a=1;" + (count + "00").substring(0, 3));
        }
        errorAt(5, "a=1;1");
        errorAt(6, "a=1;40");
        errorAt(6, "a=1;40a");
        errorAt(7, "a=_12345;");
        errorAt(8, "a=b*12345;");
        errorAt(2, "123{}");
        errorAt(4, "2{3{4{}}}");
        errorAt(4, "2{3{0");
        String many = "a=1;".repeat(29);
        errorAt(120, many + "a=1;b=2;");
        errorAt(120, many + "a=1;2{}");
        errorAt(118, many + "2{}");
        errorAt(118, "2{" + many + "}");
        good("2{" + "a=1;".repeat(28) + "}", 30);
    }

    // ---- Undo and Exceptions

    private static void undo() {
        DOC.says("Undo. Each successful call of a method whose description says \"undoable\" saves the state "
                + "from before the call, even if the call changes nothing; at most 4 states are saved, and the "
                + "oldest is dropped first.");
        OverflowGuards x = new OverflowGuards();
        Due.write(x, "a=5;b=6;");
        x.setInput(7, 1);
        x.parse();
        x.remove(1);
        x.setRange(7, 1, 2);
        x.setInput(7, 1);
        DUE.refuses("not in the range", x, IllegalArgumentException.class, () -> x.setInput(7, 3));
        DUE.refuses("no such instruction", x, IndexOutOfBoundsException.class, () -> x.remove(1));
        same("setInput changed nothing and is undone", x.undo(), 3);
        same("the range stays", x.input(7, 1), 2);
        same("setRange is undone", x.undo(), 2);
        same("the range before", x.input(7, 1), 100);
        same("one instruction yet", x.instructions(), 1);
        same("remove is undone", x.undo(), 1);
        same("two instructions", x.instructions(), 2);
        same("parse is undone", x.undo(), 0);
        same("none", x.instructions(), 0);
        same("the first setInput was dropped", x.input(7, 2), 1);
        DUE.refuses("no fifth", x, IllegalStateException.class, () -> x.undo());
        DOC.says("The saved state contains everything except the program text.");
        OverflowGuards y = Due.with("a=5;");
        y.clearText();
        y.append('b');
        y.undo();
        same("the text is not brought back", y.clearText(), 1);
        same("the program is", y.instructions(), 0);
    }

    private static void exceptions() {
        DOC.says("Exceptions. A call that throws an exception changes nothing.");
        OverflowGuards x = wide("2{e=e+a;}");
        DUE.refuses("setRange", x, IllegalArgumentException.class, () -> x.setRange(0, 9, 8));
        DUE.refuses("setInput", x, IllegalArgumentException.class, () -> x.setInput(4, 101));
        DUE.refuses("remove", x, IllegalStateException.class, () -> x.remove(0));
        DUE.refuses("append", x, IllegalArgumentException.class, () -> x.append(128));
        same("low end", x.input(0, 0), 0);
        same("input", x.input(4, 2), 0);
        same("instructions", x.instructions(), 3);
        same("text", x.clearText(), 9);
        same("saved states", x.undo(), 3);
        DOC.says("If several exceptions apply, the one that is listed first is thrown.");
        DUE.refuses("setRange", x, IndexOutOfBoundsException.class, () -> x.setRange(8, 9, 8));
        DUE.refuses("setInput", x, IndexOutOfBoundsException.class, () -> x.setInput(-1, 101));
        DUE.refuses("input", x, IndexOutOfBoundsException.class, () -> x.input(8, 3));
        DUE.refuses("instruction", x, IndexOutOfBoundsException.class, () -> x.instruction(3, 4));
        DUE.refuses("openWith", x, IndexOutOfBoundsException.class, () -> x.openWith(8, 9, 8));
        Due.write(x, "?".repeat(200));
        DUE.refuses("append", x, IllegalArgumentException.class, () -> x.append(-1));
    }

    // ---- Examples and constants

    private static void examples() {
        DOC.says("Examples: Each of them begins with a new object; the results are given behind the calls.");
        same("a new object", new OverflowGuards().digest(), new OverflowGuards().digest());
        String[] names = {
            "1. A sum whose check can fail:", "2. A check moved in front of a loop:",
            "3. What-if values of a range:", "4. An error of a text:", "5. Exceptions:",
        };
        int[] calls = {15, 15, 11, 7, 6};
        for (int n = 0; n < names.length; n++) {
            DOC.says(names[n]);
            same("calls of example " + (n + 1), example(DOC.upTo(".")), DOC.isHere() ? calls[n] : 0);
        }
    }

    /** Makes the calls of an example as the document has them; returns their number. */
    private static int example(String words) {
        OverflowGuards x = new OverflowGuards();
        int made = 0;
        Matcher calls = Pattern.compile("(\\w+\\([^)]*\\)) = ([^;]+)(;|$)").matcher(words);
        while (calls.find()) {
            String got = Calls.answer(x, calls.group(1));
            DUE.yes(calls.group(1) + " answered " + got + ", due is " + calls.group(2),
                    got.equals(calls.group(2).strip()));
            made++;
        }
        return made;
    }

    private static void constants() {
        DOC.says("The constants: `NONE = -1`: There is no such thing.");
        same("NONE", OverflowGuards.NONE, -1);
        same("no such thing", wide("a=a;").coveredBy(0), OverflowGuards.NONE);
    }

    /** The source has the five parts of the interface, each with its own calls behind it. */
    private static void partsOfTheInterface() throws IOException {
        String[] parts = {"program and inputs", "analysis", "runs", "what if", "state"};
        String[] calls = {
            "`append`, `clearText`, `parse`, `setRange`, `setInput`, `input`, `remove`, `instructions`, "
                    + "`instruction`, `operand`",
            "`state`, `states`, `coveredBy`, `range`, `finalRange`, `completes`",
            "`failure`, `result`, `checks`, `executed`, `saving`",
            "`openWith`, `safePower`, `failingInput`",
            "`undo`, `digest`",
        };
        String source = Files.readString(Path.of("src/main/java/OverflowGuards.java"));
        int at = 0;
        for (int n = 0; n < parts.length; n++) {
            DOC.says("Ahead of the calls " + calls[n] + " the interface says: ---- " + parts[n] + ".");
            at = source.indexOf("// ---- " + parts[n] + "\n", at);
            DUE.yes("the source has the part " + parts[n], at >= 0);
            for (String name : calls[n].replace("`", "").split(", ")) {
                at = at < 0 ? at : source.indexOf(" " + name + "(", at);
                DUE.yes("the source has " + name + " there", at >= 0);
            }
        }
    }
}
