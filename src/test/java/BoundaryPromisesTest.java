/** Boundary cases of the promises 1 to 27: limits, exceptions and their order, and where there is nothing. */
public final class BoundaryPromisesTest {
    private static final int MIN = Integer.MIN_VALUE;
    private static final int MAX = Integer.MAX_VALUE;
    private static final int NONE = OverflowGuards.NONE;
    private static final int TOP = 1 << 30;
    private static final Class<IndexOutOfBoundsException> INDEX = IndexOutOfBoundsException.class;
    private static final Class<IllegalArgumentException> ARGUMENT = IllegalArgumentException.class;
    private static final Class<IllegalStateException> STATE = IllegalStateException.class;
    private static final int[] NO_VARIABLES = {-1, 8, MIN, MAX, 'a'};
    private static final Due DUE = new Due();

    private interface OfInt {
        long answer(int argument);
    }

    public static void main(String[] args) {
        promise1();
        promise2();
        promise3();
        promise4();
        promise5();
        promise6();
        promise7();
        promise8();
        promise9();
        promise10();
        promise11();
        promise12();
        promise13();
        promise14();
        promise15();
        promise16();
        promise17();
        promise18();
        promise19();
        promise20();
        promise21();
        promise22();
        promise23();
        promise24();
        promise24LowEnds();
        promise25();
        promise25Range();
        promise26();
        promise27();
        DUE.end();
    }

    private static void same(String what, long got, long want) {
        DUE.same(what, got, want);
    }

    private static void takesVariables(OverflowGuards x, OfInt call) {
        for (int v = 0; v < 8; v++) {
            int variable = v;
            DUE.takes("variable " + v, () -> call.answer(variable));
        }
        for (int v : NO_VARIABLES) {
            DUE.refuses("variable " + v, x, INDEX, () -> call.answer(v));
        }
    }

    private static void takesInstructions(OverflowGuards x, OfInt call) {
        int count = x.instructions();
        for (int i = 0; i < count; i++) {
            int instruction = i;
            DUE.takes("instruction " + i, () -> call.answer(instruction));
        }
        for (int i : new int[] {-1, count, MIN, MAX, 30}) {
            DUE.refuses("instruction " + i, x, INDEX, () -> call.answer(i));
        }
    }

    private interface Question {
        long answer(OverflowGuards x, int instruction);
    }

    /** With no instruction, with one, two and thirty: the first and the last, and those beside them. */
    private static void takesInstructions(Question question) {
        for (String text : new String[] {"", "a=1;", "b=a+1;c=a;", "a=1;".repeat(30)}) {
            OverflowGuards x = Due.with(text);
            takesInstructions(x, i -> question.answer(x, i));
        }
    }

    private static void promise1() {
        DUE.sentence("Promise 1", "Creates an optimizer with a program without instructions, "
                + "an empty text, and the initial inputs.");
        OverflowGuards x = new OverflowGuards();
        same("instructions", x.instructions(), 0);
        same("parse of an empty text", new OverflowGuards().parse(), 0);
        same("length of the text", x.clearText(), 0);
        for (int v = 0; v < 8; v++) {
            same("low end", x.input(v, 0), 0);
            same("high end", x.input(v, 1), 100);
            same("input", x.input(v, 2), 0);
        }
        DUE.refuses("nothing is saved", x, STATE, () -> x.undo());
        OverflowGuards other = new OverflowGuards();
        x.append('a');
        x.setRange(0, 5, 6);
        same("another object has its own text", other.append('a'), 1);
        same("another object has its own inputs", other.input(0, 1), 100);
    }

    private static void promise2() {
        DUE.sentence("Promise 2", "the byte, 0 to 127");
        OverflowGuards x = new OverflowGuards();
        same("0", x.append(0), 1);
        same("127", x.append(127), 2);
        for (int value : new int[] {-1, 128, MIN, MAX, 256, 97 + 256, 97 - 256}) {
            DUE.refuses("append " + value, x, ARGUMENT, () -> x.append(value));
        }
        DUE.sentence("Promise 2", "Returns the new length of the text.");
        for (int n = 3; n <= 199; n++) {
            same("append", x.append(';'), n);
        }
        DUE.sentence("Promise 2", "if the text has 200 bytes");
        same("the 200th", x.append(';'), 200);
        DUE.refuses("the 201st", x, STATE, () -> x.append(';'));
        DUE.refuses("the 201st, 0", x, STATE, () -> x.append(0));
        DUE.refuses("the 201st, 127", x, STATE, () -> x.append(127));
        DUE.refuses("listed first, -1", x, ARGUMENT, () -> x.append(-1));
        DUE.refuses("listed first, 128", x, ARGUMENT, () -> x.append(128));
        same("200 yet", x.clearText(), 200);
        same("there is room again", x.append(';'), 1);
        DUE.refuses("append is not undoable", x, STATE, () -> x.undo());
    }

    private static void promise3() {
        DUE.sentence("Promise 3", "Returns the length that it had.");
        OverflowGuards x = new OverflowGuards();
        same("empty", x.clearText(), 0);
        x.append('a');
        same("one byte", x.clearText(), 1);
        same("empty again", x.clearText(), 0);
        same("parse of the emptied text", x.parse(), 0);
        Due.write(x, "?".repeat(200));
        same("full", x.clearText(), 200);
        same("the new text has none of the old", Due.parsed(x, "a=1;"), 1);
        x.undo();
        x.undo();
        x.clearText();
        DUE.refuses("clearText is not undoable", x, STATE, () -> x.undo());
    }

    private static void promise4() {
        DUE.sentence("Promise 4", "Returns the number of instructions; -10 minus the syntax error position");
        OverflowGuards x = new OverflowGuards();
        same("none", Due.parsed(x, ""), 0);
        same("thirty", Due.parsed(x, "a=1;".repeat(30)), 30);
        same("position 0", Due.parsed(x, "?"), -10);
        same("position 1", Due.parsed(x, "a"), -11);
        same("position 200", Due.parsed(x, "a=_9999+_9999;".repeat(14) + "h=12"), -210);
        DUE.sentence("Promise 4", "Undoable, if there is no syntax error.");
        same("two parses are saved", x.undo(), 1);
        same("no instruction", x.instructions(), 0);
        same("the first", x.undo(), 0);
        x.parse();
        DUE.refuses("an error saves nothing", x, STATE, () -> x.undo());
        Due.write(x, "");
        x.parse();
        same("an empty text is undoable", x.undo(), 0);
    }

    private static void promise5() {
        DUE.sentence("Promise 5", "its input becomes the low end if it does not lie in the range");
        OverflowGuards x = new OverflowGuards();
        x.setInput(0, 50);
        same("at the low end", x.setRange(0, 50, 60), 50);
        same("at the high end", x.setRange(0, 40, 50), 50);
        same("alone", x.setRange(0, 50, 50), 50);
        same("one below the low end", x.setRange(0, 51, 60), 51);
        same("one above the high end", x.setRange(0, 40, 50), 40);
        same("that is the input then", x.input(0, 2), 40);
        same("the widest", x.setRange(0, MIN, MAX), 40);
        same("the least alone", x.setRange(0, MIN, MIN), MIN);
        same("the greatest alone", x.setRange(0, MAX, MAX), MAX);
        same("others stay", x.input(1, 2), 0);
        DUE.sentence("Promise 5", "the low end, at most high");
        same("equal ends", x.setRange(7, 5, 5), 5);
        DUE.refuses("greater by one", x, ARGUMENT, () -> x.setRange(7, 6, 5));
        DUE.refuses("MAX and MIN", x, ARGUMENT, () -> x.setRange(7, MAX, MIN));
        DUE.refuses("MIN + 1 and MIN", x, ARGUMENT, () -> x.setRange(7, MIN + 1, MIN));
        DUE.sentence("Promise 5", "if there is no such variable");
        takesVariables(x, v -> x.setRange(v, 0, 1));
        DUE.refuses("listed first", x, INDEX, () -> x.setRange(8, 1, 0));
        DUE.refuses("listed first, below", x, INDEX, () -> x.setRange(-1, 1, 0));
        DUE.sentence("Promise 5", "Undoable.");
        same("one of four", x.undo(), 3);
        same("it is undone", x.input(7, 1), 5);
    }

    private static void promise6() {
        DUE.sentence("Promise 6", "the input, in its input range");
        OverflowGuards x = new OverflowGuards();
        same("the high end", x.setInput(0, 100), 0);
        same("the low end", x.setInput(0, 0), 100);
        DUE.refuses("one above", x, ARGUMENT, () -> x.setInput(0, 101));
        DUE.refuses("one below", x, ARGUMENT, () -> x.setInput(0, -1));
        x.setRange(0, -3, -3);
        same("the only one", x.setInput(0, -3), -3);
        DUE.refuses("one above the only one", x, ARGUMENT, () -> x.setInput(0, -2));
        DUE.refuses("one below the only one", x, ARGUMENT, () -> x.setInput(0, -4));
        x.setRange(0, MIN, MAX);
        same("MIN", x.setInput(0, MIN), -3);
        same("MAX", x.setInput(0, MAX), MIN);
        DUE.sentence("Promise 6", "if there is no such variable");
        takesVariables(x, v -> x.setInput(v, 1));
        DUE.refuses("listed first", x, INDEX, () -> x.setInput(8, 101));
        DUE.refuses("listed first, below", x, INDEX, () -> x.setInput(-1, -1));
        DUE.sentence("Promise 6", "Undoable.");
        same("one of four", x.undo(), 3);
        same("it is undone", x.input(7, 2), 0);
        same("variable 6 has its own", x.input(6, 2), 1);
    }

    private static void promise7() {
        DUE.sentence("Promise 7", "0 the low end of its input range, 1 the high end, 2 the input");
        OverflowGuards x = new OverflowGuards();
        x.setRange(7, MIN, MAX);
        same("low end", x.input(7, 0), MIN);
        same("high end", x.input(7, 1), MAX);
        same("input", x.input(7, 2), 0);
        for (int what : new int[] {-1, 3, MIN, MAX}) {
            DUE.refuses("what " + what, x, ARGUMENT, () -> x.input(0, what));
        }
        DUE.sentence("Promise 7", "if there is no such variable");
        takesVariables(x, v -> x.input(v, 0));
        DUE.refuses("listed first", x, INDEX, () -> x.input(8, 3));
        DUE.refuses("listed first, below", x, INDEX, () -> x.input(-1, -1));
    }

    private static void promise8() {
        DUE.sentence("Promise 8", "if there is no such instruction");
        OverflowGuards none = new OverflowGuards();
        DUE.refuses("without instructions", none, INDEX, () -> none.remove(0));
        OverflowGuards x = Due.with("1{a=1;}b=2;");
        for (int i : new int[] {-1, 4, 30, MIN, MAX}) {
            DUE.refuses("instruction " + i, x, INDEX, () -> x.remove(i));
        }
        DUE.sentence("Promise 8", "if it is a loop begin or a loop end");
        DUE.refuses("the loop begin", x, STATE, () -> x.remove(0));
        DUE.refuses("the loop end", x, STATE, () -> x.remove(2));
        DUE.sentence("Promise 8", "Returns the number of instructions that are left.");
        same("the last", x.remove(3), 3);
        DUE.refuses("it is gone", x, INDEX, () -> x.remove(3));
        same("the only one of the loop", x.remove(1), 2);
        DUE.refuses("the empty loop's begin", x, STATE, () -> x.remove(0));
        DUE.refuses("the empty loop's end", x, STATE, () -> x.remove(1));
        same("the end of the begin", x.instruction(0, 3), 1);
        same("the begin of the end", x.instruction(1, 3), 0);
        OverflowGuards one = Due.with("a=1;");
        same("the only one", one.remove(0), 0);
        DUE.refuses("none is left", one, INDEX, () -> one.remove(0));
        same("undone", one.undo(), 1);
        same("it is there again", one.result(0, false), 1);
        DUE.sentence("Promise 8", "the numbers of those behind it decrease by 1");
        OverflowGuards full = Due.with("a=1;".repeat(28) + "2{}");
        for (int left = 29; left >= 2; left--) {
            same("left", full.remove(0), left);
            same("begin's end", full.instruction(left - 2, 3), left - 1);
            same("end's begin", full.instruction(left - 1, 3), left - 2);
        }
        OverflowGuards nested = Due.with("a=1;2{b=2;3{c=3;}d=4;}e=5;");
        nested.remove(4);
        int[] partners = {NONE, 6, NONE, 4, 3, NONE, 1, NONE};
        int[] depths = {0, 0, 1, 1, 1, 1, 0, 0};
        for (int i = 0; i < partners.length; i++) {
            same("partner of " + i, nested.instruction(i, 3), partners[i]);
            same("depth of " + i, nested.instruction(i, 2), depths[i]);
        }
        same("the coverer's number", coverAfterRemove(), 1);
        OverflowGuards kinds = Due.with("a=1;b=c+2;d=e-3;f=4*g;h=b;");
        int[][] due = {{1, 1, 2, 20002}, {2, 3, 4, 20003}, {3, 5, 20004, 6}, {0, 7, 1, NONE}};
        for (int gone = 0; gone < 4; gone++) {
            kinds.remove(0);
            for (int i = 0; i < kinds.instructions(); i++) {
                same("kind of " + i, kinds.instruction(i, 0), due[i + gone][0]);
                same("result of " + i, kinds.instruction(i, 1), due[i + gone][1]);
                same("first of " + i, kinds.operand(i, false), due[i + gone][2]);
                same("second of " + i, kinds.operand(i, true), due[i + gone][3]);
            }
        }
    }

    private static int coverAfterRemove() {
        OverflowGuards x = Due.with("d=a+b;f=1;e=d+c;");
        x.setRange(0, 0, MAX);
        x.setRange(2, 0, MAX);
        x.remove(1);
        return x.coveredBy(0);
    }

    private static void promise9() {
        DUE.sentence("Promise 9", "Returns 0 to 30.");
        OverflowGuards x = new OverflowGuards();
        same("none", x.instructions(), 0);
        Due.parsed(x, "a=1;".repeat(30));
        same("thirty", x.instructions(), 30);
        Due.parsed(x, "a=1;".repeat(31));
        same("not thirty-one", x.instructions(), 30);
        Due.parsed(x, "");
        same("none again", x.instructions(), 0);
    }

    private static void promise10() {
        DUE.sentence("Promise 10", "its result variable (the count for a loop begin, NONE for a loop end)");
        OverflowGuards x = Due.with("h=1;40{1{a=2;}}");
        int[][] due = {
            {0, 7, 0, NONE}, {4, 40, 0, 5}, {4, 1, 1, 4}, {0, 0, 2, NONE}, {5, NONE, 1, 2}, {5, NONE, 0, 1},
        };
        for (int i = 0; i < due.length; i++) {
            for (int what = 0; what <= 3; what++) {
                same("instruction " + i + ", " + what, x.instruction(i, what), due[i][what]);
            }
        }
        DUE.sentence("Promise 10", "if what is out of range");
        for (int what : new int[] {-1, 4, MIN, MAX}) {
            DUE.refuses("what " + what, x, ARGUMENT, () -> x.instruction(0, what));
        }
        DUE.sentence("Promise 10", "if there is no such instruction");
        takesInstructions((y, i) -> y.instruction(i, 3));
        DUE.refuses("listed first", x, INDEX, () -> x.instruction(6, 4));
        DUE.refuses("listed first, below", x, INDEX, () -> x.instruction(-1, -1));
    }

    private static void promise11() {
        DUE.sentence("Promise 11", "Returns the number of a variable, or 20000 + the constant; "
                + "NONE if the instruction has no such operand.");
        OverflowGuards x = Due.with("a=h;b=_9999+9999;c=0-_1;d=a*h;2{}");
        int[][] due = {{7, NONE}, {10001, 29999}, {20000, 19999}, {0, 7}, {NONE, NONE}, {NONE, NONE}};
        for (int i = 0; i < due.length; i++) {
            same("first of " + i, x.operand(i, false), due[i][0]);
            same("second of " + i, x.operand(i, true), due[i][1]);
        }
        DUE.sentence("Promise 11", "if there is no such instruction");
        takesInstructions((y, i) -> y.operand(i, true));
        takesInstructions((y, i) -> y.operand(i, false));
    }

    private static void promise12() {
        DUE.sentence("Promise 12", "NONE if it has no check");
        OverflowGuards x = Due.with("a=1;2{b=a;}");
        for (int i = 0; i < 4; i++) {
            same("state of " + i, x.state(i), NONE);
        }
        DUE.sentence("Promise 12", "Returns 0 to 4 as described above");
        OverflowGuards all = allStates();
        int[] due = {2, 4, NONE, 3, NONE, 1, 1, 4, 0, NONE};
        for (int i = 0; i < due.length; i++) {
            same("state of " + i, all.state(i), due[i]);
        }
        DUE.sentence("Promise 12", "if there is no such instruction");
        takesInstructions((y, i) -> y.state(i));
    }

    /** Joined, kept, loop begin, hoisted, loop end, dropped, dropped, kept (it ends), dead, a copy. */
    private static OverflowGuards allStates() {
        OverflowGuards x = Due.with("d=a+b;e=d+c;3{f=f+a;}g=1+1;a=9999*9999;a=a*a;h=1+1;b=c;");
        for (int v = 0; v < 3; v++) {
            x.setRange(v, 0, MAX);
        }
        return x;
    }

    private static void promise13() {
        DUE.sentence("Promise 13", "Counts the instructions whose check is in a state.");
        OverflowGuards x = allStates();
        int[] due = {1, 2, 1, 1, 2};
        for (int state = 0; state <= 4; state++) {
            same("state " + state, x.states(state), due[state]);
        }
        OverflowGuards none = new OverflowGuards();
        OverflowGuards copies = Due.with("a=1;2{}");
        OverflowGuards full = Due.with("a=b+1;".repeat(30));
        for (int state = 0; state <= 4; state++) {
            same("without instructions, " + state, none.states(state), 0);
            same("without checks, " + state, copies.states(state), 0);
            same("thirty, " + state, full.states(state), state == 1 ? 30 : 0);
        }
        DUE.sentence("Promise 13", "if state is out of range");
        for (int state : new int[] {-1, 5, MIN, MAX}) {
            DUE.refuses("state " + state, x, ARGUMENT, () -> x.states(state));
            DUE.refuses("state " + state + " of none", none, ARGUMENT, () -> none.states(state));
        }
    }

    private static void promise14() {
        DUE.sentence("Promise 14", "NONE if the instruction is not joined");
        OverflowGuards x = allStates();
        for (int i = 0; i < 10; i++) {
            same("coveredBy " + i, x.coveredBy(i), i == 0 ? 1 : NONE);
        }
        DUE.sentence("Promise 14", "if there is no such instruction");
        takesInstructions((y, i) -> y.coveredBy(i));
    }

    private static void promise15() {
        DUE.sentence("Promise 15", "0 if the analysis has not reached it");
        OverflowGuards x = Due.with("b=a*a;c=7;d=c+7;2{e=7;}");
        x.setRange(0, MIN, MIN);
        same("low end where it ends", x.range(0, false), 1L << 62);
        same("high end where it ends", x.range(0, true), 1L << 62);
        for (int i : new int[] {1, 2, 4}) {
            same("low end of " + i, x.range(i, false), 0);
            same("high end of " + i, x.range(i, true), 0);
        }
        x.setRange(0, -5, -3);
        same("low end when it is reached", x.range(2, false), 14);
        same("high end when it is reached", x.range(2, true), 14);
        x.setRange(0, MIN, MIN);
        same("low end, not reached again", x.range(2, false), 0);
        same("high end, not reached again", x.range(2, true), 0);
        DUE.sentence("Promise 15", "before they are cut, at all of its executions in the analysis");
        OverflowGuards y = Due.with("2{b=a-1;a=a+a;}");
        y.setRange(0, MIN, MAX);
        same("lower than int", y.range(1, false), MIN - 1L);
        same("sum, low end", y.range(2, false), 2L * MIN);
        same("sum, high end", y.range(2, true), 2L * MAX);
        Due.parsed(y, "2{b=a*a;a=3;}");
        same("the first round's high end", y.range(1, true), 1L << 62);
        same("the first round's low end", y.range(1, false), (long) MIN * MAX);
        Due.parsed(y, "2{b=a;a=_5000;}");
        y.setRange(0, 10, 20);
        same("the second round's low end", y.range(1, false), -5000);
        same("the first round's high end", y.range(1, true), 20);
        Due.parsed(y, "2{b=a;a=5000;}");
        same("the first round's low end", y.range(1, false), 10);
        same("the second round's high end", y.range(1, true), 5000);
        DUE.sentence("Promise 15", "if it is a loop begin or a loop end");
        DUE.refuses("loop begin", x, STATE, () -> x.range(3, false));
        DUE.refuses("loop end", x, STATE, () -> x.range(5, true));
        DUE.sentence("Promise 15", "if there is no such instruction");
        takesInstructions((z, i) -> z.range(i, true));
        takesInstructions((z, i) -> z.range(i, false));
    }

    private static void promise16() {
        DUE.sentence("Promise 16", "0 if the analysis has ended before the end of the program");
        OverflowGuards x = Due.with("b=a+1;");
        x.setRange(0, MAX, MAX);
        x.setRange(7, 5, 6);
        for (int v = 0; v < 8; v++) {
            same("low end of " + v, x.finalRange(v, false), 0);
            same("high end of " + v, x.finalRange(v, true), 0);
        }
        x.setRange(0, MAX - 1, MAX);
        same("one number is left, low end", x.finalRange(1, false), MAX);
        same("one number is left, high end", x.finalRange(1, true), MAX);
        same("of an unused one", x.finalRange(7, false), 5);
        OverflowGuards none = new OverflowGuards();
        none.setRange(0, MIN, MAX);
        same("without instructions, low end", none.finalRange(0, false), MIN);
        same("without instructions, high end", none.finalRange(0, true), MAX);
        DUE.sentence("Promise 16", "if there is no such variable");
        takesVariables(x, v -> x.finalRange(v, true));
        takesVariables(x, v -> x.finalRange(v, false));
    }

    private static void promise17() {
        DUE.sentence("Promise 17", "Tells whether the analysis has reached the end of the program.");
        OverflowGuards x = new OverflowGuards();
        DUE.yes("without instructions", x.completes());
        Due.parsed(x, "40{40{}}");
        DUE.yes("empty loops", x.completes());
        Due.parsed(x, "b=2;".repeat(29) + "b=a+1;");
        x.setRange(0, 0, MAX);
        DUE.yes("the last can fail", x.completes());
        x.setRange(0, MAX, MAX);
        DUE.yes("the last fails for sure", !x.completes());
        Due.parsed(x, "40{40{c=c+1;}}");
        x.setRange(2, MAX - 1600, MAX);
        DUE.yes("1600 sums leave one number", x.completes());
        same("which is MAX", x.finalRange(2, false), MAX);
        x.setRange(2, MAX - 1599, MAX);
        DUE.yes("the last of 1600 sums leaves none", !x.completes());
    }

    private static void promise18() {
        DUE.sentence("Promise 18", "Returns the number of the instruction; NONE if it does not fail.");
        OverflowGuards x = new OverflowGuards();
        same("without instructions, plain", x.failure(false), NONE);
        same("without instructions, optimized", x.failure(true), NONE);
        Due.parsed(x, "b=a+1;");
        x.setRange(0, 0, MAX);
        x.setInput(0, MAX - 1);
        same("up to MAX, plain", x.failure(false), NONE);
        same("up to MAX, optimized", x.failure(true), NONE);
        x.setInput(0, MAX);
        same("over MAX, plain", x.failure(false), 0);
        same("over MAX, optimized", x.failure(true), 0);
    }

    private static void promise19() {
        DUE.sentence("Promise 19", "Returns the value of a variable at the end of a run.");
        OverflowGuards x = Due.with("b=a-1;c=a+a;");
        x.setRange(0, MIN, MAX);
        x.setInput(0, MIN + 1);
        same("MIN", x.result(1, false), MIN);
        same("MIN, optimized", x.result(1, true), MIN);
        same("the failed one keeps its input", x.result(2, false), 0);
        same("the failed one keeps its input, optimized", x.result(2, true), 0);
        DUE.sentence("Promise 19", "if there is no such variable");
        takesVariables(x, v -> x.result(v, true));
        takesVariables(x, v -> x.result(v, false));
    }

    private static void promise20() {
        DUE.sentence("Promise 20", "Returns the number of checks of a run.");
        OverflowGuards x = new OverflowGuards();
        same("without instructions, plain", x.checks(false), 0);
        same("without instructions, optimized", x.checks(true), 0);
        Due.parsed(x, "40{40{" + "a=b;".repeat(26) + "}}");
        same("copies, plain", x.checks(false), 0);
        Due.parsed(x, "40{40{" + "a=b+b;".repeat(26) + "}}");
        same("the most, plain", x.checks(false), 41600);
        same("all dropped", x.checks(true), 0);
        x.setRange(1, 0, MAX);
        same("all kept", x.checks(true), 41600);
        x.setInput(1, MAX);
        same("the first fails, plain", x.checks(false), 1);
        same("the first fails, optimized", x.checks(true), 1);
    }

    private static void promise21() {
        DUE.sentence("Promise 21", "that the plain run has executed completely");
        OverflowGuards x = new OverflowGuards();
        same("none", x.executed(), 0);
        Due.parsed(x, "1{}");
        same("loops do not count", x.executed(), 0);
        Due.parsed(x, "40{40{" + "a=b;".repeat(26) + "}}");
        same("the most", x.executed(), 41600);
        Due.parsed(x, "a=1;c=b+b;d=1;");
        x.setRange(1, 0, MAX);
        same("all three", x.executed(), 3);
        x.setInput(1, TOP);
        same("not the failed one", x.executed(), 1);
        Due.parsed(x, "c=b+b;d=1;");
        same("the first failed", x.executed(), 0);
    }

    private static void promise22() {
        DUE.sentence("Promise 22", "0.0 if the plain run has no checks");
        OverflowGuards x = new OverflowGuards();
        DUE.sameDouble("without instructions", x.saving(), 0.0);
        Due.parsed(x, "a=b;2{c=1;}");
        DUE.sameDouble("copies", x.saving(), 0.0);
        DUE.sentence("Promise 22", "1.0 minus (the number of checks of the optimized run, converted to "
                + "double, divided by that of the plain run, converted to double)");
        Due.parsed(x, "a=b+1;");
        DUE.sameDouble("all", x.saving(), 1.0);
        x.setRange(1, 0, MAX);
        DUE.sameDouble("nothing", x.saving(), 0.0);
        Due.parsed(x, "3{a=a+b;}");
        DUE.sameDouble("two thirds", x.saving(), 1.0 - 1.0 / 3.0);
        x.setInput(1, MAX);
        x.setInput(0, 1);
        DUE.sameDouble("one more than before", x.saving(), 1.0 - 2.0 / 1.0);
        Due.parsed(x, "7{c=b-1;d=d+h;e=1-_1;}");
        x.setRange(1, MIN, 0);
        x.setInput(1, 0);
        DUE.sameDouble("seven of twenty-one are left", x.saving(), 1.0 - 7.0 / 21.0);
    }

    private static void promise23() {
        DUE.sentence("Promise 23", "Counts the checks that could fail (states 2 to 4) "
                + "if the input range of a variable were another one.");
        OverflowGuards x = Due.with("d=a+b;e=d+c;3{f=f+a;}g=a-_1;");
        long before = x.digest();
        same("nothing can fail", x.openWith(0, 0, 100), 0);
        same("joined, kept, hoisted and kept", x.openWith(0, 0, MAX), 4);
        same("the range does not change", x.input(0, 1), 100);
        same("nothing changes", x.digest(), before);
        same("the sum up to MAX", x.openWith(0, 0, (MAX - 100) / 3), 0);
        same("the sum over MAX", x.openWith(0, 0, (MAX - 100) / 3 + 1), 1);
        same("the input need not lie in it", x.openWith(0, 200, 300), 0);
        same("without instructions", new OverflowGuards().openWith(0, MIN, MAX), 0);
        OverflowGuards full = Due.with("b=a+a;".repeat(30));
        same("thirty", full.openWith(0, MIN, MAX), 30);
        same("it ends at the first", full.openWith(0, MAX, MAX), 1);
        DUE.sentence("Promise 23", "the low end, at most high");
        same("equal ends", x.openWith(0, MIN, MIN), 1);
        DUE.refuses("greater by one", x, ARGUMENT, () -> x.openWith(0, 6, 5));
        DUE.refuses("MAX and MIN", x, ARGUMENT, () -> x.openWith(0, MAX, MIN));
        DUE.sentence("Promise 23", "if there is no such variable");
        takesVariables(x, v -> x.openWith(v, 0, 1));
        DUE.refuses("listed first", x, INDEX, () -> x.openWith(8, 1, 0));
        DUE.refuses("listed first, below", x, INDEX, () -> x.openWith(-1, 1, 0));
    }

    private static void promise24() {
        DUE.sentence("Promise 24", "Finds the greatest power of two, 1 to 2^30, such that no check could fail "
                + "if the input range of a variable went from its present low end to this power minus 1");
        OverflowGuards x = new OverflowGuards();
        same("without instructions", x.safePower(0), TOP);
        // b = a + c is at most power - 1 + c
        Due.parsed(x, "b=a+c;");
        x.setRange(2, 0, MAX - TOP + 1);
        same("2^30 - 1 up to MAX", x.safePower(0), TOP);
        x.setRange(2, 0, MAX - TOP + 2);
        same("2^30 - 1 over MAX", x.safePower(0), TOP / 2);
        x.setRange(2, 0, MAX - 1);
        same("1 up to MAX", x.safePower(0), 2);
        x.setRange(2, 0, MAX);
        same("1 over MAX", x.safePower(0), 1);
        Due.parsed(x, "b=a+c;d=c+1;");
        same("0 over MAX", x.safePower(0), 0);
        same("another variable cannot help", x.safePower(7), 0);
        long before = x.digest();
        x.safePower(0);
        same("nothing changes", x.digest(), before);
        DUE.sentence("Promise 24", "if there is no such variable");
        takesVariables(x, v -> x.safePower(v));
    }

    private static void promise24LowEnds() {
        DUE.sentence("Promise 24",
                "and neither with any smaller power from the first one on that is not below the low end plus 1");
        OverflowGuards x = Due.with("");
        x.setRange(0, TOP - 1, MAX);
        same("low end plus 1 is 2^30", x.safePower(0), TOP);
        x.setRange(0, TOP, MAX);
        same("low end plus 1 is over 2^30", x.safePower(0), 0);
        x.setRange(0, MAX, MAX);
        same("the low end is MAX", x.safePower(0), 0);
        x.setRange(0, MIN, MAX);
        same("the low end is MIN", x.safePower(0), TOP);
        Due.parsed(x, "b=a*a;");
        x.setRange(0, 32767, 32767);
        same("low end plus 1 is 2^15", x.safePower(0), 32768);
        x.setRange(0, 32768, 32768);
        same("low end plus 1 is over 2^15", x.safePower(0), 0);
        x.setRange(0, 16384, 16384);
        same("low end plus 1 is over 2^14", x.safePower(0), 32768);
        x.setRange(0, -46340, 0);
        same("a low end below 0", x.safePower(0), 32768);
        x.setRange(0, -46341, 0);
        same("the first power fails", x.safePower(0), 0);
        Due.parsed(x, "b=a-c;");
        x.setRange(0, 0, 0);
        x.setRange(2, MIN, MIN);
        same("0 - MIN fails already", x.safePower(0), 0);
        x.setRange(0, -1, 0);
        same("-1 - MIN does not, but the first power has 0, too", x.safePower(0), 0);
        // with 2 to 3 nothing fails; 2 to 0 and 2 to 1 are no ranges: the powers begin with 4
        Due.parsed(x, "b=a*c;");
        x.setRange(0, 2, 2);
        x.setRange(2, MAX / 3, MAX / 3);
        same("powers begin behind the low end", x.safePower(0), 4);
        x.setRange(0, 3, 3);
        same("the first power is the low end plus 1", x.safePower(0), 4);
        x.setRange(0, 4, 4);
        same("the first power is 8", x.safePower(0), 0);
    }

    private static void promise25() {
        DUE.sentence("Promise 25", "Finds the smallest input of a variable, from its present input "
                + "up to 200 more");
        OverflowGuards x = Due.with("b=a+a;");
        x.setRange(0, MIN, MAX);
        for (int ahead = 0; ahead <= 202; ahead++) {
            x.setInput(0, TOP - ahead);
            same(ahead + " ahead", x.failingInput(0), ahead <= 200 ? TOP : MIN);
        }
        x.setInput(0, TOP + 1);
        same("the present one, not one before", x.failingInput(0), TOP + 1);
        x.setInput(0, MAX);
        same("at MAX", x.failingInput(0), MAX);
        x.setInput(0, MIN);
        same("at MIN", x.failingInput(0), MIN);
        x.setInput(0, MIN + 1);
        same("at MIN + 1", x.failingInput(0), MIN + 1);
        x.setInput(0, -TOP - 1);
        same("the last that fails below", x.failingInput(0), -TOP - 1);
        x.setInput(0, -TOP);
        same("the first that does not fail", x.failingInput(0), MIN);
        long before = x.digest();
        x.failingInput(0);
        same("nothing changes", x.digest(), before);
        // it fails with every input that is not the present one of d
        Due.parsed(x, "b=a-d;b=b*b;b=b*c;b=b+b;");
        x.setRange(3, 50, 50);
        x.setRange(2, TOP, TOP);
        x.setInput(0, 50);
        same("one more", x.failingInput(0), 51);
        x.setInput(0, 49);
        same("itself", x.failingInput(0), 49);
        // by ranges a - a may be anything, with one input it is 0
        Due.parsed(x, "b=a-a;b=b*9999;b=b*9999;b=b*9999;b=a+100;");
        x.setRange(0, 0, MAX);
        x.setInput(0, MAX - 300);
        same("201 more would fail", x.failingInput(0), MIN);
        x.setInput(0, MAX - 299);
        same("200 more fails", x.failingInput(0), MAX - 99);
        DUE.sentence("Promise 25", "if there is no such variable");
        takesVariables(x, v -> x.failingInput(v));
    }

    private static void promise25Range() {
        DUE.sentence("Promise 25", "within its input range, with which the plain run fails");
        OverflowGuards x = Due.with("b=a+a;");
        x.setRange(0, 0, TOP);
        x.setInput(0, TOP - 1);
        same("the high end fails", x.failingInput(0), TOP);
        x.setRange(0, 0, TOP - 1);
        same("one behind the high end would fail", x.failingInput(0), MIN);
        x.setRange(0, TOP, TOP);
        same("one input that fails", x.failingInput(0), TOP);
        x.setRange(0, TOP - 1, TOP - 1);
        same("one input that does not fail", x.failingInput(0), MIN);
        same("of an unused variable", x.failingInput(7), MIN);
        Due.parsed(x, "c=a*1;");
        x.setRange(0, 0, MAX);
        for (int value : new int[] {MAX, MAX - 1, MAX - 199, MAX - 200, MAX - 201}) {
            x.setInput(0, value);
            same("nothing behind MAX, from " + value, x.failingInput(0), MIN);
        }
        Due.parsed(x, "c=b+1;");
        x.setRange(1, MAX, MAX);
        x.setInput(7, 33);
        same("it fails with all of an unused variable", x.failingInput(7), 33);
        DUE.sentence("Promise 25", "Integer.MIN_VALUE if there is none");
        same("without instructions", new OverflowGuards().failingInput(0), MIN);
        same("copies", Due.with("b=a;").failingInput(0), MIN);
    }

    private static void promise26() {
        DUE.sentence("Promise 26", "if there is no saved state");
        OverflowGuards x = new OverflowGuards();
        DUE.refuses("new", x, STATE, () -> x.undo());
        x.setInput(0, 1);
        DUE.sentence("Promise 26", "Returns the number of saved states that remain.");
        same("none remains", x.undo(), 0);
        DUE.refuses("all are used", x, STATE, () -> x.undo());
        for (int n = 1; n <= 4; n++) {
            x.setInput(0, n);
        }
        for (int left = 3; left >= 0; left--) {
            same("remain", x.undo(), left);
            same("the input", x.input(0, 2), left);
        }
        DUE.refuses("four, not five", x, STATE, () -> x.undo());
        x.setInput(0, 7);
        same("undo is not undoable", x.undo(), 0);
        DUE.refuses("not undoable", x, STATE, () -> x.undo());
    }

    private static void promise27() {
        DUE.sentence("Promise 27", "Start with h = 2953 and, for each of the following values v, "
                + "set h = 31 * h + v");
        same("a new object", new OverflowGuards().digest(), newDigest(0, 0));
        OverflowGuards x = new OverflowGuards();
        Due.write(x, "?".repeat(200));
        same("200 bytes", x.digest(), newDigest(200, 0));
        for (int saved = 1; saved <= 6; saved++) {
            x.setInput(0, 0);
            same("saved states, at most four", x.digest(), newDigest(200, Math.min(saved, 4)));
        }
        x.undo();
        same("three are left", x.digest(), newDigest(200, 3));
        DUE.sentence("Promise 27", "the number of instructions and, for each of them, "
                + "the values of instruction() for what = 0 to 3");
        OverflowGuards all = allStates();
        same("every state", all.digest(), digestByFace(all, 55, 4));
        OverflowGuards cut = Due.with("d=a+b;e=d-c;3{f=f+a;2{g=h*_9999;}}");
        cut.setRange(0, MIN, MAX);
        cut.setRange(2, MIN, MAX);
        cut.setInput(0, -9);
        same("negative ends and results", cut.digest(), digestByFace(cut, 34, 4));
        cut.setInput(2, MIN);
        same("failing", cut.digest(), digestByFace(cut, 34, 4));
        OverflowGuards full = Due.with("h=1;".repeat(30));
        same("thirty", full.digest(), digestByFace(full, 120, 1));
        full.remove(29);
        full.clearText();
        same("twenty-nine and no text", full.digest(), digestByFace(full, 0, 2));
    }

    private static long digestByFace(OverflowGuards x, int length, int saved) {
        long h = 31 * (31 * 2953L + length) + x.instructions();
        for (int i = 0; i < x.instructions(); i++) {
            for (int what = 0; what <= 3; what++) {
                h = 31 * h + x.instruction(i, what);
            }
            h = 31 * (31 * h + x.operand(i, false)) + x.operand(i, true);
            h = 31 * (31 * h + x.state(i)) + x.coveredBy(i);
        }
        for (int v = 0; v < 8; v++) {
            for (int what = 0; what <= 2; what++) {
                h = 31 * h + x.input(v, what);
            }
            h = 31 * (31 * h + x.finalRange(v, false)) + x.finalRange(v, true);
        }
        for (boolean optimized : new boolean[] {false, true}) {
            h = 31 * h + x.failure(optimized);
            for (int v = 0; v < 8; v++) {
                h = 31 * h + x.result(v, optimized);
            }
            h = 31 * h + x.checks(optimized);
        }
        return 31 * (31 * h + x.executed()) + saved;
    }

    /** The values of a new object, written out. */
    private static long newDigest(int length, int saved) {
        long h = 31 * (31 * 2953L + length);
        for (int v = 0; v < 8; v++) {
            for (int value : new int[] {0, 100, 0, 0, 100}) {
                h = 31 * h + value;
            }
        }
        for (int run = 0; run < 2; run++) {
            h = 31 * h - 1;
            for (int n = 0; n < 9; n++) {
                h = 31 * h;
            }
        }
        return 31 * (31 * h) + saved;
    }
}
