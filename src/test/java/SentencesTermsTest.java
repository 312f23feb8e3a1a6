import java.lang.reflect.Constructor;
import java.lang.reflect.Field;
import java.lang.reflect.Method;
import java.lang.reflect.Modifier;
import java.util.ArrayList;
import java.util.Arrays;
import java.util.Collections;
import java.util.List;

/** The document from its first line up to 'States of checks', sentence by sentence. */
public final class SentencesTermsTest {
    private static final int MIN = Integer.MIN_VALUE;
    private static final int MAX = Integer.MAX_VALUE;
    private static final int NONE = OverflowGuards.NONE;
    private static final Class<IndexOutOfBoundsException> INDEX = IndexOutOfBoundsException.class;
    private static final Due DUE = new Due();
    private static final Document DOC = new Document(DUE, "# OverflowGuards", "Joining. The instruction");

    public static void main(String[] args) {
        whatItIs();
        publicFace();
        programs();
        loops();
        checks();
        inputs();
        ranges();
        states();
        DOC.end();
        DUE.end();
    }

    private static void same(String what, long got, long want) {
        DUE.same(what, got, want);
    }

    private static void states(String what, OverflowGuards x, int... due) {
        same(what + ": instructions", x.instructions(), due.length);
        for (int i = 0; i < due.length; i++) {
            same(what + ": state of " + i, x.state(i), due[i]);
        }
    }

    private static void rangeIs(String what, OverflowGuards x, int i, long low, long high) {
        same(what + ", low end", x.range(i, false), low);
        same(what + ", high end", x.range(i, true), high);
    }

    /** a to d may be 0 to MAX, e to h are 0 to 100. */
    private static OverflowGuards wide(String text) {
        OverflowGuards x = Due.with(text);
        for (int v = 0; v < 4; v++) {
            x.setRange(v, 0, MAX);
        }
        return x;
    }

    private static void whatItIs() {
        DOC.heading("# OverflowGuards");
        DOC.heading("## What it is");
        DOC.says("An optimizer for overflow checks in small programs: it finds by ranges which checks can "
                + "never fail, joins checks of sums into later ones, moves checks in front of loops, and "
                + "runs programs with all checks and with the remaining ones, so that results, failures "
                + "and the numbers of checks can be compared.");
        OverflowGuards x = wide("e=a+b;f=e+c;3{g=g+d;}h=7-1;");
        states("all of it", x, 2, 4, NONE, 3, NONE, 1);
        x.setInput(3, 20);
        for (int v = 0; v < 8; v++) {
            same("results can be compared, " + v, x.result(v, true), x.result(v, false));
        }
        same("g", x.result(6, true), 60);
        same("failures can be compared", x.failure(true), x.failure(false));
        same("all checks", x.checks(false), 1 + 1 + 3 + 1);
        same("the remaining ones", x.checks(true), 1 + 1);
        DOC.says("An object is used for at most 512 calls after it has been made; what later calls answer is "
                + "free.");
        OverflowGuards y = new OverflowGuards();
        for (int n = 1; n <= 128; n++) {
            same("append, round " + n, y.append('a'), 1);
            same("clearText, round " + n, y.clearText(), 1);
            same("setInput, round " + n, y.setInput(0, n % 100), (n - 1) % 100);
            same("result, round " + n, y.result(0, true), n % 100);
        }
    }

    // ---- the face

    private static void publicFace() {
        DOC.heading("## The public face");
        DOC.says("```java");
        List<String> found = new ArrayList<>();
        Class<?> face = OverflowGuards.class;
        for (Field field : face.getDeclaredFields()) {
            if (!Modifier.isPrivate(field.getModifiers()) && !field.isSynthetic()) {
                found.add(Modifier.toString(field.getModifiers()) + " " + field.getType().getSimpleName()
                        + " " + field.getName());
            }
        }
        for (Constructor<?> made : face.getDeclaredConstructors()) {
            found.add(Modifier.toString(made.getModifiers()) + " " + made.getName()
                    + "(" + names(made.getParameterTypes()) + ")");
        }
        for (Method method : face.getDeclaredMethods()) {
            if (!Modifier.isPrivate(method.getModifiers()) && !method.isSynthetic()) {
                String thrown = names(method.getExceptionTypes());
                found.add(Modifier.toString(method.getModifiers()) + " "
                        + method.getReturnType().getSimpleName() + " " + method.getName()
                        + "(" + names(method.getParameterTypes()) + ")"
                        + (thrown.isEmpty() ? "" : " throws " + thrown));
            }
        }
        found.add(Modifier.toString(face.getModifiers()) + " class " + face.getName());
        Collections.sort(found);
        List<String> due = declared(DOC.upTo("```"));
        DUE.yes("the face is " + found + ", due is " + due, !DOC.isHere() || found.equals(due));
        same("members of the face", found.size(), 1 + 1 + 1 + 26);
        same("NONE", OverflowGuards.NONE, -1);
    }

    private static String names(Class<?>[] types) {
        List<String> all = new ArrayList<>();
        for (Class<?> type : types) {
            all.add(type.getSimpleName());
        }
        return String.join(", ", all);
    }

    /** The document's declarations without the names of parameters and the constant's value. */
    private static List<String> declared(String block) {
        List<String> all = new ArrayList<>();
        for (String one : block.replace("}", "").split("[;{]")) {
            if (!one.isBlank()) {
                all.add(one.strip().replaceAll("(int|boolean) [a-z]+(?=[,)])", "$1").replaceAll(" = .*", ""));
            }
        }
        Collections.sort(all);
        return all;
    }

    // ---- Programs

    private static void programs() {
        DOC.heading("## Terms");
        DOC.says("Programs are read from a text.");
        OverflowGuards read = new OverflowGuards();
        Due.write(read, "b=5;");
        same("not yet", read.result(1, false), 0);
        read.parse();
        same("read", read.result(1, false), 5);
        DOC.says("Programs. There are 8 variables, a to h, numbered 0 to 7.");
        OverflowGuards eight = Due.with("a=10;b=11;c=12;d=13;e=14;f=15;g=16;h=17;");
        for (int v = 0; v < 8; v++) {
            same("variable " + v, eight.result(v, false), 10 + v);
            same("its number", eight.instruction(v, 1), v);
        }
        DUE.refuses("a ninth", eight, INDEX, () -> eight.result(8, false));
        same("i is no variable", Due.parsed(eight, "i=1;"), -10);
        DOC.says("Their values are ints; the int range is -2147483648 to 2147483647.");
        OverflowGuards ints = Due.with("b=a+1;c=d-1;");
        ints.setRange(0, MIN, MAX);
        ints.setRange(3, MIN, MAX);
        ints.setInput(0, 2147483646);
        ints.setInput(3, -2147483647);
        same("the greatest", ints.result(1, false), 2147483647);
        same("the least", ints.result(2, false), -2147483648);
        ints.setInput(3, -2147483648);
        same("below the least", ints.failure(false), 1);
        ints.setInput(0, 2147483647);
        same("above the greatest", ints.failure(false), 0);
        DOC.says("A program is a sequence of instructions, numbered from 0 in the order of the text; "
                + "at most 30.");
        OverflowGuards row = Due.with("c=1;b=2;2{a=3;}");
        int[] results = {2, 1, 2, 0, NONE};
        for (int i = 0; i < results.length; i++) {
            same("in its order, " + i, row.instruction(i, 1), results[i]);
        }
        same("thirty", Due.parsed(row, "c=1;".repeat(30)), 30);
        same("thirty-one", Due.parsed(row, "c=1;".repeat(31)), -10 - 120);
        DOC.says("There are these kinds: 0 copy: v = p; 1 sum: v = p + q; 2 difference: v = p - q; 3 product: "
                + "v = p * q; 4 loop begin, with a count n from 1 to 40; 5 loop end.");
        OverflowGuards kinds = Due.with("a=g;b=g+h;c=g-h;d=g*h;1{}40{}");
        kinds.setInput(6, 9);
        kinds.setInput(7, 4);
        int[] kind = {0, 1, 2, 3, 4, 5, 4, 5};
        for (int i = 0; i < kind.length; i++) {
            same("kind of " + i, kinds.instruction(i, 0), kind[i]);
        }
        int[] values = {9, 13, 5, 36};
        for (int v = 0; v < 4; v++) {
            same("value of " + v, kinds.result(v, false), values[v]);
            same("value of " + v + ", optimized", kinds.result(v, true), values[v]);
        }
        same("the least count", kinds.instruction(4, 1), 1);
        same("the greatest count", kinds.instruction(6, 1), 40);
        same("0", Due.parsed(kinds, "0{}"), -10);
        same("41", Due.parsed(kinds, "41{}"), -10);
        DOC.says("v is a variable; p and q are operands: variables, or constants from -9999 to 9999.");
        OverflowGuards operands = Due.with("a=b-9999;c=_9999*h;d=_9999;");
        same("variable", operands.operand(0, false), 1);
        same("9999", operands.operand(0, true), 29999);
        same("-9999", operands.operand(1, false), 10001);
        same("the second variable", operands.operand(1, true), 7);
        same("its value", operands.result(3, false), -9999);
        same("v is no constant", Due.parsed(operands, "1=a;"), -11);
        same("10000 is no constant", Due.parsed(operands, "a=10000;"), -16);
    }

    private static void loops() {
        DOC.says("Loops can be nested two deep.");
        OverflowGuards x = Due.with("2{2{a=a+1;}2{b=b+1;}}");
        same("two deep", x.instruction(2, 2), 2);
        same("beside it", x.instruction(5, 2), 2);
        same("not three deep", Due.parsed(x, "2{2{2{}}}"), -14);
        DOC.says("An instruction lies directly in a loop if it lies in it, but not in a loop inside of it.");
        OverflowGuards direct = wide("5{e=e+a;4{f=f+b;}g=g+c;}");
        same("two directly in the outer loop, one in the inner", direct.checks(true), 2 + 5);
        DOC.says("A loop and everything in it are executed n times for each time when the loop is reached.");
        OverflowGuards times = Due.with("3{a=a+1;5{b=b+1;}7{c=c+1;}}2{d=d+1;}");
        int[] rounds = {3, 15, 21, 2};
        for (int v = 0; v < 4; v++) {
            same("plain rounds of " + v, times.result(v, false), rounds[v]);
            same("optimized rounds of " + v, times.result(v, true), rounds[v]);
            same("rounds of " + v + " in the analysis", times.finalRange(v, false), rounds[v]);
        }
    }

    private static void checks() {
        DOC.says("A sum, a difference or a product has a check: if the exact result is not in the int range, "
                + "the check fails, and the program ends there, without a change of v.");
        for (String sign : new String[] {"+", "-", "*"}) {
            OverflowGuards x = Due.with("c=1;c=a" + sign + "b;d=1;");
            x.setRange(0, MIN, MAX);
            x.setRange(1, MIN, MAX);
            x.setInput(0, MAX);
            x.setInput(1, sign.equals("-") ? -2 : 2);
            same(sign + " has a check", x.checks(false), 1);
            same(sign + " fails", x.failure(false), 1);
            same(sign + " does not change v", x.result(2, false), 1);
            same(sign + " ends the program", x.result(3, false), 0);
            x.setInput(0, MIN);
            x.setInput(1, sign.equals("+") ? -1 : 3);
            same(sign + " fails below", x.failure(false), 1);
        }
        OverflowGuards copy = wide("e=a;");
        copy.setInput(0, MAX);
        same("a copy has none", copy.checks(false), 0);
        DOC.says("Otherwise v gets the result.");
        OverflowGuards gets = Due.with("c=a+b;d=a-b;e=b*_3;");
        gets.setInput(0, 30);
        gets.setInput(1, 70);
        int[] values = {30, 70, 100, -40, -210};
        for (int v = 0; v < 5; v++) {
            same("value of " + v, gets.result(v, false), values[v]);
            same("value of " + v + ", optimized", gets.result(v, true), values[v]);
        }
    }

    private static void inputs() {
        DOC.says("Inputs. Each variable has an input range, initially 0 to 100, and an input, initially 0, "
                + "which lies in the input range.");
        OverflowGuards x = new OverflowGuards();
        for (int v = 0; v < 8; v++) {
            same("low end of " + v, x.input(v, 0), 0);
            same("high end of " + v, x.input(v, 1), 100);
            same("input of " + v, x.input(v, 2), 0);
        }
        for (int v = 0; v < 8; v++) {
            x.setRange(v, 10 * v + 1, 10 * v + 5);
        }
        for (int v = 0; v < 8; v++) {
            same("it lies in its own range, " + v, x.input(v, 2), 10 * v + 1);
        }
    }

    // ---- Ranges

    private static void ranges() {
        DOC.says("Ranges. The analysis goes through the program like a run, every execution of every "
                + "instruction in its order, but with ranges (intervals of whole numbers) in place of values: "
                + "it begins with the input ranges; the range of a constant is the constant alone.");
        OverflowGuards x = Due.with("b=a;3{a=a+c;2{d=a;}}e=_12;");
        x.setRange(0, 5, 7);
        x.setRange(2, -1, 10);
        rangeIs("the input range", x, 0, 5, 7);
        rangeIs("three sums", x, 2, 2, 37);
        rangeIs("in the inner loop", x, 4, 2, 37);
        rangeIs("a constant", x, 7, -12, -12);
        same("low end at the end", x.finalRange(0, false), 2);
        same("high end at the end", x.finalRange(0, true), 37);
        same("b as it was copied", x.finalRange(1, true), 7);
        same("d is a's last one", x.finalRange(3, true), 37);
        DOC.says("The range of the result of a sum, a difference or a product is the smallest one that "
                + "contains all exact results for operands in their ranges (both operands taken "
                + "independently).");
        int[] ends = {-3, -1, 0, 2, 4};
        for (int[] p : pairs(ends)) {
            for (int[] q : pairs(ends)) {
                for (char sign : new char[] {'+', '-', '*'}) {
                    smallest(p, sign, q);
                }
            }
        }
        OverflowGuards itself = Due.with("b=a-a;");
        itself.setRange(0, 3, 9);
        rangeIs("independently", itself, 0, -6, 6);
        DOC.says("If it is not within the int range, it is cut to the int range afterwards; if nothing is "
                + "left, the analysis ends there.");
        OverflowGuards cut = Due.with("b=a+a;c=b;");
        cut.setRange(0, 5, MAX);
        rangeIs("before the cut", cut, 0, 10, 2L * MAX);
        rangeIs("behind the cut", cut, 1, 10, MAX);
        cut.setRange(0, MIN, -5);
        rangeIs("before the cut below", cut, 0, 2L * MIN, -10);
        rangeIs("behind the cut below", cut, 1, MIN, -10);
        DUE.yes("something is left", cut.completes());
        cut.setRange(0, MIN, MIN);
        DUE.yes("nothing is left", !cut.completes());
        rangeIs("it ended there", cut, 1, 0, 0);
        DOC.says("The check of an instruction can fail if, at some execution of it in the analysis, the range "
                + "of the result is not within the int range.");
        OverflowGuards some = Due.with("6{b=a*2;a=9;}c=d-1;");
        some.setRange(0, 0, 1073741823);
        states("within at each", some, NONE, 1, NONE, NONE, 1);
        some.setRange(0, 0, 1073741824);
        states("not at the first", some, NONE, 4, NONE, NONE, 1);
        some.setRange(0, -1073741824, 0);
        states("within below", some, NONE, 1, NONE, NONE, 1);
        some.setRange(0, -1073741825, 0);
        states("not within below", some, NONE, 4, NONE, NONE, 1);
        Due.parsed(some, "6{b=a*2;a=a*a;}");
        // the third time a is 182 to the power of 4, and twice that is over MAX
        some.setRange(0, 182, 182);
        states("not at a later one", some, NONE, 4, 1, NONE);
    }

    private static List<int[]> pairs(int[] ends) {
        List<int[]> all = new ArrayList<>();
        for (int low : ends) {
            for (int high : ends) {
                if (low <= high) {
                    all.add(new int[] {low, high});
                }
            }
        }
        return all;
    }

    /** Held against all results, one by one. */
    private static void smallest(int[] p, char sign, int[] q) {
        long low = Long.MAX_VALUE;
        long high = Long.MIN_VALUE;
        for (int a = p[0]; a <= p[1]; a++) {
            for (int b = q[0]; b <= q[1]; b++) {
                long exact = sign == '+' ? a + b : sign == '-' ? a - b : a * b;
                low = Math.min(low, exact);
                high = Math.max(high, exact);
            }
        }
        OverflowGuards x = Due.with("c=a" + sign + "b;");
        x.setRange(0, p[0], p[1]);
        x.setRange(1, q[0], q[1]);
        rangeIs(Arrays.toString(p) + " " + sign + " " + Arrays.toString(q), x, 0, low, high);
    }

    // ---- States of checks

    private static void states() {
        DOC.says("States of checks. Each instruction of the kinds 1 to 3 has one of these states:");
        OverflowGuards x = Due.with("b=a;c=a+1;d=a-1;e=a*1;2{f=1;}");
        states("kinds 1 to 3", x, NONE, 1, 1, 1, NONE, NONE, NONE);
        DOC.says("0 dead: the analysis has not reached it.");
        OverflowGuards dead = Due.with("b=a*2;c=c+1;d=d-1;e=e*1;");
        dead.setRange(0, 1073741824, MAX);
        states("behind its end", dead, 4, 0, 0, 0);
        dead.setRange(0, 1073741823, MAX);
        states("something is left", dead, 4, 1, 1, 1);
        DOC.says("1 dropped: it was reached, and its check cannot fail.");
        OverflowGuards dropped = Due.with("b=a+100;c=0-a;d=a*9;");
        states("cannot fail", dropped, 1, 1, 1);
        dropped.setRange(0, MIN, MAX);
        states("can fail", dropped, 4, 4, 4);
        DOC.says("2 joined: its check can fail, and there is an instruction that covers it, as described "
                + "below.");
        states("joined", wide("e=a+b;f=e+c;"), 2, 4);
        states("its check cannot fail", wide("e=g+h;f=e+c;"), 1, 4);
        states("nothing covers it", wide("e=a+b;f=g+c;"), 4, 4);
        DOC.says("3 hoisted: its check can fail, it is not joined, and it is moved in front of a loop, as "
                + "described below.");
        states("hoisted", wide("2{e=e+a;}"), NONE, 3, NONE);
        states("its check cannot fail", wide("2{e=e+h;}"), NONE, 1, NONE);
        states("it is joined", wide("2{e=e+a;f=e+b;}"), NONE, 2, 4, NONE);
        states("it is in no loop", wide("e=e+a;"), 4);
        DOC.says("4 kept: otherwise.");
        states("kept", wide("e=a+b;f=a*b;g=a-_1;2{h=a+b;}"), 4, 4, 4, NONE, 4, NONE);
    }
}
