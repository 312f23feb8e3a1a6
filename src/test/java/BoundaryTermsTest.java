/** Boundary cases of the document's 'Terms': Programs, Inputs, Ranges and States of checks. */
public final class BoundaryTermsTest {
    private static final int MIN = Integer.MIN_VALUE;
    private static final int MAX = Integer.MAX_VALUE;
    private static final int NONE = OverflowGuards.NONE;
    private static final Class<IndexOutOfBoundsException> INDEX = IndexOutOfBoundsException.class;
    private static final Due DUE = new Due();

    public static void main(String[] args) {
        eightVariables();
        valuesAreInts();
        numberedFromZero();
        atMostThirty();
        kinds();
        countsOfLoops();
        constants();
        twoDeep();
        directlyInALoop();
        executedEachTime();
        theCheckFails();
        initialInputs();
        everyExecution();
        beginsWithTheInputRanges();
        aConstantAlone();
        smallestRange();
        operandsIndependently();
        cutAfterwards();
        nothingIsLeft();
        canFailAtSomeExecution();
        oneOfTheseStates();
        dead();
        dropped();
        joinedHoistedKept();
        DUE.end();
    }

    private static void same(String what, long got, long want) {
        DUE.same(what, got, want);
    }

    private static void errorAt(String text, int position) {
        OverflowGuards x = new OverflowGuards();
        same("parse of " + text, Due.parsed(x, text), -10 - position);
    }

    private static void rangeIs(String what, OverflowGuards x, int i, long low, long high) {
        same(what + ", low end", x.range(i, false), low);
        same(what + ", high end", x.range(i, true), high);
    }

    // ---- Programs

    private static void eightVariables() {
        DUE.sentence("Programs", "There are 8 variables, a to h, numbered 0 to 7.");
        for (int v = 0; v < 8; v++) {
            char letter = (char) ('a' + v);
            OverflowGuards x = Due.with(letter + "=" + letter + "*" + letter + ";");
            same("result " + letter, x.instruction(0, 1), v);
            same("first " + letter, x.operand(0, false), v);
            same("second " + letter, x.operand(0, true), v);
            same("input range of " + letter, x.input(v, 1), 100);
        }
        for (char letter : new char[] {'a' - 1, 'i', 'A', 'H'}) {
            errorAt(letter + "=1;", 0);
            errorAt("a=" + letter + ";", 2);
            errorAt("a=b+" + letter + ";", 4);
        }
        OverflowGuards x = new OverflowGuards();
        DUE.refuses("variable 8", x, INDEX, () -> x.input(8, 2));
        DUE.refuses("variable -1", x, INDEX, () -> x.input(-1, 2));
    }

    /** The program a = b (op) c with these inputs; want is what a gets, or null if the check fails. */
    private static void runs(int b, char op, int c, Integer want) {
        OverflowGuards x = Due.with("a=b" + op + "c;d=1;");
        x.setRange(1, MIN, MAX);
        x.setRange(2, MIN, MAX);
        x.setInput(0, 77);
        x.setInput(1, b);
        x.setInput(2, c);
        String what = b + " " + op + " " + c;
        for (int mode = 0; mode < 2; mode++) {
            boolean optimized = mode == 1;
            same(what + ", failure " + optimized, x.failure(optimized), want == null ? 0 : NONE);
            same(what + ", a " + optimized, x.result(0, optimized), want == null ? 77 : want);
            same(what + ", b " + optimized, x.result(1, optimized), b);
            same(what + ", d " + optimized, x.result(3, optimized), want == null ? 0 : 1);
        }
    }

    private static void valuesAreInts() {
        DUE.sentence("Programs", "the int range is -2147483648 to 2147483647");
        runs(MAX - 1, '+', 1, MAX);
        runs(MAX, '+', 1, null);
        runs(MAX, '+', 0, MAX);
        runs(MAX, '+', MAX, null);
        runs(MIN + 1, '+', -1, MIN);
        runs(MIN, '+', -1, null);
        runs(MIN, '+', MIN, null);
        runs(MIN, '+', MAX, -1);
        runs(MIN + 1, '-', 1, MIN);
        runs(MIN, '-', 1, null);
        runs(MAX - 1, '-', -1, MAX);
        runs(MAX, '-', -1, null);
        runs(-1, '-', MIN, MAX);
        runs(0, '-', MIN, null);
        runs(MIN, '-', MAX, null);
        runs(MIN, '-', MIN, 0);
        runs(46340, '*', 46340, 2147395600);
        runs(46341, '*', 46341, null);
        runs(-65536, '*', 32768, MIN);
        runs(65536, '*', 32768, null);
        runs(-65537, '*', 32768, null);
        runs(MIN, '*', 1, MIN);
        runs(MIN, '*', -1, null);
        runs(MAX, '*', -1, MIN + 1);
        runs(MIN, '*', MIN, null);
        runs(MIN, '*', MAX, null);
        runs(MAX, '*', MAX, null);
        runs(MIN, '*', 0, 0);
        // these wrap round to an int that looks harmless
        runs(65536, '*', 65536, null);
        runs(MIN, '*', 2, null);
    }

    private static void numberedFromZero() {
        DUE.sentence("Programs", "numbered from 0 in the order of the text");
        OverflowGuards x = Due.with("h=1;2{g=2;}f=3;");
        int[] results = {7, 2, 6, NONE, 5};
        for (int i = 0; i < results.length; i++) {
            same("instruction " + i, x.instruction(i, 1), results[i]);
        }
        DUE.refuses("in front of the first", x, INDEX, () -> x.instruction(-1, 0));
        DUE.refuses("behind the last", x, INDEX, () -> x.instruction(5, 0));
    }

    private static void atMostThirty() {
        DUE.sentence("Programs", "at most 30");
        OverflowGuards x = Due.with("a=1;".repeat(29) + "b=2;");
        same("thirty", x.instructions(), 30);
        same("the last", x.instruction(29, 1), 1);
        same("the last is executed", x.result(1, true), 2);
        DUE.refuses("instruction 30", x, INDEX, () -> x.instruction(30, 0));
        errorAt("a=1;".repeat(31), 120);
    }

    private static void kinds() {
        DUE.sentence("Programs", "0 copy: v = p; 1 sum: v = p + q; 2 difference: v = p - q; "
                + "3 product: v = p * q; 4 loop begin");
        OverflowGuards x = Due.with("a=7;b=7+3;c=7-3;d=7*3;1{}");
        for (int i = 0; i < 6; i++) {
            same("kind of " + i, x.instruction(i, 0), i);
        }
        int[] values = {7, 10, 4, 21};
        for (int v = 0; v < 4; v++) {
            same("value of " + v, x.result(v, false), values[v]);
        }
    }

    private static void countsOfLoops() {
        DUE.sentence("Programs", "with a count n from 1 to 40");
        for (int n = 1; n <= 40; n++) {
            OverflowGuards x = Due.with(n + "{b=b+1;}");
            same("count of " + n, x.instruction(0, 1), n);
            same("rounds of " + n, x.result(1, false), n);
            same("rounds of " + n + ", optimized", x.result(1, true), n);
            same("rounds of " + n + " in the analysis", x.finalRange(1, true), 100 + n);
        }
        errorAt("0{b=b+1;}", 0);
        errorAt("41{b=b+1;}", 0);
    }

    private static void constants() {
        DUE.sentence("Programs", "constants from -9999 to 9999");
        OverflowGuards x = Due.with("a=9999;b=_9999;c=0;d=_9999+_9999;");
        same("9999", x.result(0, false), 9999);
        same("-9999", x.result(1, false), -9999);
        same("0", x.result(2, false), 0);
        same("twice -9999", x.result(3, false), -19998);
        errorAt("a=10000;", 6);
        errorAt("a=_10000;", 7);
    }

    private static void twoDeep() {
        DUE.sentence("Programs", "Loops can be nested two deep.");
        OverflowGuards x = Due.with("2{3{a=a+1;}}");
        same("two deep", x.instruction(2, 2), 2);
        same("two loops side by side in one", Due.parsed(x, "2{3{}3{}}"), 6);
        same("many in a row", Due.parsed(x, "2{}".repeat(15)), 30);
        errorAt("2{3{4{}}}", 4);
        errorAt("2{3{}3{4{}}}", 7);
    }

    private static void directlyInALoop() {
        DUE.sentence("Programs", "An instruction lies directly in a loop if it lies in it, "
                + "but not in a loop inside of it.");
        OverflowGuards x = Due.with("3{2{d=d+a;}}");
        x.setRange(0, 0, MAX);
        same("the check is at the inner loop, each time", x.checks(true), 3);
        Due.parsed(x, "3{d=d+a;2{}}");
        same("in front of an inner loop", x.checks(true), 1);
        Due.parsed(x, "3{2{}d=d+a;}");
        same("behind an inner loop", x.checks(true), 1);
        Due.parsed(x, "3{2{}2{d=d+a;}2{}}");
        same("between inner loops", x.checks(true), 3);
        Due.parsed(x, "3{d=d+a;2{e=e+a;}f=f+a;}");
        same("in both", x.checks(true), 2 + 3);
    }

    private static void executedEachTime() {
        DUE.sentence("Programs", "A loop and everything in it are executed n times "
                + "for each time when the loop is reached.");
        OverflowGuards x = Due.with("40{40{a=a+1;}}");
        same("the most", x.executed(), 1600);
        same("its sum", x.result(0, false), 1600);
        Due.parsed(x, "1{1{a=a+1;}}");
        same("the least", x.executed(), 1);
        Due.parsed(x, "40{3{a=a+1;}b=b+1;2{c=c+1;}}d=d+1;");
        same("a", x.result(0, false), 120);
        same("b", x.result(1, false), 40);
        same("c", x.result(2, false), 80);
        same("d", x.result(3, false), 1);
        Due.parsed(x, "40{40{}}");
        same("empty loops", x.executed(), 0);
    }

    private static void theCheckFails() {
        DUE.sentence("Programs", "if the exact result is not in the int range, the check fails, "
                + "and the program ends there, without a change of v. Otherwise v gets the result.");
        OverflowGuards x = Due.with("b=1;3{c=c+1;a=a+d;e=e+1;}f=1;");
        x.setRange(0, 0, MAX);
        x.setInput(0, MAX - 2);
        x.setInput(3, 1);
        same("in the third round", x.failure(false), 3);
        int[] values = {MAX, 1, 3, 1, 2, 0, 0, 0};
        for (int v = 0; v < 8; v++) {
            same("plain value " + v, x.result(v, false), values[v]);
            same("optimized value " + v, x.result(v, true), values[v]);
        }
        x.setInput(0, MAX - 3);
        same("one less", x.failure(false), NONE);
        same("v gets the result", x.result(0, false), MAX);
        same("the program goes on", x.result(5, false), 1);
    }

    // ---- Inputs

    private static void initialInputs() {
        DUE.sentence("Inputs", "Each variable has an input range, initially 0 to 100, and an input, "
                + "initially 0, which lies in the input range.");
        OverflowGuards x = new OverflowGuards();
        for (int v = 0; v < 8; v++) {
            same("low end of " + v, x.input(v, 0), 0);
            same("high end of " + v, x.input(v, 1), 100);
            same("input of " + v, x.input(v, 2), 0);
        }
        x.setRange(3, 1, 1);
        for (int v = 0; v < 8; v++) {
            same("range of its own, " + v, x.input(v, 1), v == 3 ? 1 : 100);
            same("input of its own, " + v, x.input(v, 2), v == 3 ? 1 : 0);
        }
    }

    // ---- Ranges

    private static void everyExecution() {
        DUE.sentence("Ranges", "every execution of every instruction in its order");
        OverflowGuards x = Due.with("40{40{a=a+1;}}");
        rangeIs("1600 executions", x, 2, 1, 1700);
        same("low end at last", x.finalRange(0, false), 1600);
        same("high end at last", x.finalRange(0, true), 1700);
        Due.parsed(x, "b=a;a=5;c=a;");
        rangeIs("in front of the change", x, 0, 0, 100);
        rangeIs("behind the change", x, 2, 5, 5);
    }

    private static void beginsWithTheInputRanges() {
        DUE.sentence("Ranges", "it begins with the input ranges");
        OverflowGuards x = Due.with("b=a;");
        x.setInput(0, 50);
        rangeIs("not the input", x, 0, 0, 100);
        x.setRange(0, MIN, MAX);
        rangeIs("the widest", x, 0, MIN, MAX);
        x.setRange(0, MIN, MIN);
        rangeIs("the least alone", x, 0, MIN, MIN);
        x.setRange(0, MAX, MAX);
        rangeIs("the greatest alone", x, 0, MAX, MAX);
    }

    private static void aConstantAlone() {
        DUE.sentence("Ranges", "the range of a constant is the constant alone");
        OverflowGuards x = Due.with("a=9999;b=_9999;c=0;d=9999-_9999;");
        rangeIs("9999", x, 0, 9999, 9999);
        rangeIs("-9999", x, 1, -9999, -9999);
        rangeIs("0", x, 2, 0, 0);
        rangeIs("19998", x, 3, 19998, 19998);
    }

    /** The range of c = a (op) b for these ranges of a and b. */
    private static void rangeOf(int[] a, char op, int[] b, long low, long high) {
        OverflowGuards x = Due.with("c=a" + op + "b;");
        x.setRange(0, a[0], a[1]);
        x.setRange(1, b[0], b[1]);
        rangeIs(a[0] + ".." + a[1] + " " + op + " " + b[0] + ".." + b[1], x, 0, low, high);
    }

    private static int[] to(int low, int high) {
        return new int[] {low, high};
    }

    private static void smallestRange() {
        DUE.sentence("Ranges", "the smallest one that contains all exact results "
                + "for operands in their ranges");
        rangeOf(to(-3, 5), '+', to(-11, 2), -14, 7);
        rangeOf(to(MIN, MAX), '+', to(MIN, MAX), 2L * MIN, 2L * MAX);
        rangeOf(to(-3, 5), '-', to(-11, 2), -5, 16);
        rangeOf(to(MIN, MAX), '-', to(MIN, MAX), (long) MIN - MAX, (long) MAX - MIN);
        rangeOf(to(2, 3), '*', to(5, 7), 10, 21);
        rangeOf(to(-3, -2), '*', to(5, 7), -21, -10);
        rangeOf(to(2, 3), '*', to(-7, -5), -21, -10);
        rangeOf(to(-3, -2), '*', to(-7, -5), 10, 21);
        rangeOf(to(-3, 2), '*', to(5, 7), -21, 14);
        rangeOf(to(-3, 2), '*', to(-7, -5), -14, 21);
        rangeOf(to(2, 3), '*', to(-7, 5), -21, 15);
        rangeOf(to(-3, -2), '*', to(-7, 5), -15, 21);
        rangeOf(to(-3, 2), '*', to(-7, 5), -15, 21);
        rangeOf(to(-2, 3), '*', to(-5, 7), -15, 21);
        rangeOf(to(-2, 9), '*', to(-7, 1), -63, 14);
        rangeOf(to(-9, 2), '*', to(-1, 7), -63, 14);
        rangeOf(to(0, 0), '*', to(MIN, MAX), 0, 0);
        rangeOf(to(MIN, MAX), '*', to(MIN, MAX), (long) MIN * MAX, (long) MIN * MIN);
        rangeOf(to(MAX, MAX), '*', to(MAX, MAX), (long) MAX * MAX, (long) MAX * MAX);
    }

    private static void operandsIndependently() {
        DUE.sentence("Ranges", "both operands taken independently");
        OverflowGuards x = Due.with("b=a-a;c=a*a;d=a+a;");
        x.setRange(0, -5, 3);
        rangeIs("a - a", x, 0, -8, 8);
        rangeIs("a * a", x, 1, -15, 25);
        rangeIs("a + a", x, 2, -10, 6);
    }

    private static void cutAfterwards() {
        DUE.sentence("Ranges", "If it is not within the int range, it is cut to the int range afterwards");
        OverflowGuards x = Due.with("b=a+1;c=b;");
        x.setRange(0, 0, MAX - 1);
        rangeIs("within, at the high end", x, 1, 1, MAX);
        x.setRange(0, 0, MAX);
        rangeIs("over it by one", x, 0, 1, MAX + 1L);
        rangeIs("cut at the high end", x, 1, 1, MAX);
        Due.parsed(x, "b=a-1;c=b;");
        x.setRange(0, MIN + 1, 0);
        rangeIs("within, at the low end", x, 1, MIN, -1);
        x.setRange(0, MIN, 0);
        rangeIs("under it by one", x, 0, MIN - 1L, -1);
        rangeIs("cut at the low end", x, 1, MIN, -1);
        Due.parsed(x, "b=a*_2;c=b;");
        x.setRange(0, MIN, MAX);
        rangeIs("over it and under it", x, 0, -2L * MAX, -2L * MIN);
        rangeIs("cut at both ends", x, 1, MIN, MAX);
        same("final low end", x.finalRange(2, false), MIN);
        same("final high end", x.finalRange(2, true), MAX);
    }

    private static void nothingIsLeft() {
        DUE.sentence("Ranges", "if nothing is left, the analysis ends there");
        OverflowGuards x = Due.with("b=a+1;c=d;");
        x.setRange(0, MAX - 1, MAX);
        DUE.yes("one number is left at the high end", x.completes());
        same("it is MAX", x.finalRange(1, false), MAX);
        x.setRange(0, MAX, MAX);
        DUE.yes("nothing is left over the high end", !x.completes());
        rangeIs("where it ends", x, 0, MAX + 1L, MAX + 1L);
        rangeIs("a copy behind the end", x, 1, 0, 0);
        Due.parsed(x, "b=a-1;c=d;");
        x.setRange(0, MIN, MIN + 1);
        DUE.yes("one number is left at the low end", x.completes());
        same("it is MIN", x.finalRange(1, true), MIN);
        x.setRange(0, MIN, MIN);
        DUE.yes("nothing is left under the low end", !x.completes());
        rangeIs("where it ends below", x, 0, MIN - 1L, MIN - 1L);
        Due.parsed(x, "3{c=c+1;a=a+1;}");
        x.setRange(0, MAX - 1, MAX - 1);
        rangeIs("it ends in the second round", x, 1, 1, 102);
        rangeIs("with the second execution", x, 2, MAX, MAX + 1L);
    }

    private static void canFailAtSomeExecution() {
        DUE.sentence("Ranges", "The check of an instruction can fail if, at some execution of it in the "
                + "analysis, the range of the result is not within the int range.");
        OverflowGuards x = Due.with("40{b=a-_1;a=5;}");
        x.setRange(0, 0, MAX - 1);
        same("at none", x.state(1), 1);
        x.setRange(0, 0, MAX);
        same("at the first alone", x.state(1), 4);
        Due.parsed(x, "40{b=a-_1;a=a-_1;}");
        x.setRange(0, 0, MAX - 40);
        same("up to MAX at the last", x.state(1), 1);
        x.setRange(0, 0, MAX - 39);
        same("over MAX at the last alone", x.state(1), 4);
        Due.parsed(x, "40{a=a-1;}");
        x.setRange(0, MIN + 40, 0);
        same("down to MIN at the last", x.state(1), 1);
        x.setRange(0, MIN + 39, 0);
        same("under MIN at the last alone", x.state(1), 4);
    }

    // ---- States of checks

    private static void oneOfTheseStates() {
        DUE.sentence("States of checks",
                "Each instruction of the kinds 1 to 3 has one of these states");
        OverflowGuards x = Due.with("a=b;c=a+b;d=a-b;e=a*b;2{f=1;}");
        int[] due = {NONE, 1, 1, 1, NONE, NONE, NONE};
        for (int i = 0; i < due.length; i++) {
            same("state of " + i, x.state(i), due[i]);
        }
        same("all three", x.states(0) + x.states(1) + x.states(2) + x.states(3) + x.states(4), 3);
    }

    private static void dead() {
        DUE.sentence("States of checks", "0 dead: the analysis has not reached it.");
        OverflowGuards x = Due.with("c=a+1;d=b+1;e=b-1;f=b*1;g=b;2{h=h+1;}");
        x.setRange(0, MAX, MAX);
        int[] due = {4, 0, 0, 0, NONE, NONE, 0, NONE};
        for (int i = 0; i < due.length; i++) {
            same("behind the end, " + i, x.state(i), due[i]);
        }
        x.setRange(0, MAX - 1, MAX);
        same("one number is left: reached", x.state(1), 1);
        // reached in the first round, not in the second
        Due.parsed(x, "2{a=a+1;b=b+1;}c=c+1;");
        x.setRange(0, MAX - 1, MAX - 1);
        same("the end in the second round", x.state(1), 3);
        same("reached in the first round", x.state(2), 1);
        same("behind the loop", x.state(4), 0);
    }

    private static void dropped() {
        DUE.sentence("States of checks", "1 dropped: it was reached, and its check cannot fail.");
        OverflowGuards x = Due.with("c=a+b;d=a-b;e=a*b;");
        x.setRange(0, 0, MAX - 100);
        same("sum up to MAX", x.state(0), 1);
        x.setRange(0, 0, MAX - 99);
        same("sum over MAX", x.state(0), 4);
        x.setRange(0, MIN, 0);
        x.setRange(1, 0, 0);
        same("sum down to MIN", x.state(0), 1);
        x.setRange(1, -1, 0);
        same("sum under MIN", x.state(0), 4);
        x.setRange(0, MIN + 1, 0);
        x.setRange(1, 0, 1);
        same("difference down to MIN", x.state(1), 1);
        x.setRange(0, MIN, 0);
        same("difference under MIN", x.state(1), 4);
        x.setRange(0, 0, MAX - 1);
        x.setRange(1, -1, 0);
        same("difference up to MAX", x.state(1), 1);
        x.setRange(0, 0, MAX);
        same("difference over MAX", x.state(1), 4);
        x.setRange(0, -65536, 65535);
        x.setRange(1, 0, 32768);
        same("product down to MIN", x.state(2), 1);
        x.setRange(0, -65537, 65535);
        same("product under MIN", x.state(2), 4);
        x.setRange(0, -65536, 65536);
        same("product over MAX", x.state(2), 4);
        x.setRange(0, MAX, MAX);
        x.setRange(1, 1, 1);
        Due.parsed(x, "e=a*b;");
        same("product up to MAX", x.state(0), 1);
    }

    private static void joinedHoistedKept() {
        DUE.sentence("States of checks",
                "2 joined: its check can fail, and there is an instruction that covers it");
        OverflowGuards x = Due.with("3{d=d+a;e=d+b;}");
        x.setRange(0, 0, 715827849);
        x.setRange(1, 0, MAX);
        // 100 + 3 * 715827849 = MAX
        same("it cannot fail", x.state(1), 1);
        x.setRange(0, 0, 715827850);
        same("it can fail and is covered", x.state(1), 2);
        DUE.sentence("States of checks",
                "3 hoisted: its check can fail, it is not joined, and it is moved in front of a loop");
        x.setRange(1, -1, MAX);
        same("it can fail and is not covered", x.state(1), 3);
        x.setRange(0, 0, 715827849);
        same("it cannot fail and is not moved", x.state(1), 1);
        DUE.sentence("States of checks", "4 kept: otherwise.");
        same("neither joined nor moved", x.state(2), 4);
        Due.parsed(x, "d=d+a;e=d+b;");
        x.setRange(0, 0, MAX);
        same("in no loop and not covered", x.state(0), 4);
        x.setRange(1, 0, MAX);
        same("in no loop and covered", x.state(0), 2);
    }
}
