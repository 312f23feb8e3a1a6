/** The document from promise 1 to its last line, sentence by sentence. */
public final class SentencesPromisesTest {
    private static final int MIN = Integer.MIN_VALUE;
    private static final int MAX = Integer.MAX_VALUE;
    private static final int NONE = OverflowGuards.NONE;
    private static final int TOP = 1 << 30;
    private static final String INDEX = "IndexOutOfBoundsException";
    private static final String ARGUMENT = "IllegalArgumentException";
    private static final String STATE = "IllegalStateException";
    private static final String NO_VARIABLE = "Throws `" + INDEX + "` if there is no such variable";
    private static final String NO_INSTRUCTION = "Throws `" + INDEX + "` if there is no such instruction";
    private static final Due DUE = new Due();
    private static final Document DOC = new Document(DUE, "## Promise 1:", null);

    private interface OfInt {
        long answer(int argument);
    }

    public static void main(String[] args) {
        newObject();
        append();
        clearText();
        parse();
        setRange();
        setInput();
        input();
        remove();
        instructions();
        instruction();
        operand();
        state();
        states();
        coveredBy();
        range();
        finalRange();
        completes();
        failure();
        result();
        checks();
        executed();
        saving();
        openWith();
        safePower();
        failingInput();
        undo();
        digest();
        notPromised();
        DOC.end();
        DUE.end();
    }

    private static void same(String what, long got, long want) {
        DUE.same(what, got, want);
    }

    private static void refuses(String what, OverflowGuards x, String want, Due.Call call) {
        long before = x.digest();
        String got = Due.thrownBy(call);
        DUE.yes(what + " threw " + got + ", due is " + want, got.equals(want));
        same("digest after " + what, x.digest(), before);
    }

    private static void variables(OverflowGuards x, OfInt call) {
        for (int v = 0; v < 8; v++) {
            int variable = v;
            DUE.takes("variable " + v, () -> call.answer(variable));
        }
        for (int v : new int[] {-1, 8, MIN, MAX}) {
            refuses("variable " + v, x, INDEX, () -> call.answer(v));
        }
    }

    /** All instructions of the object are of the kinds 0 to 3. */
    private static void numbers(OverflowGuards x, OfInt call) {
        int count = x.instructions();
        for (int i = 0; i < count; i++) {
            int instruction = i;
            DUE.takes("instruction " + i, () -> call.answer(instruction));
        }
        for (int i : new int[] {-1, count, MIN, MAX}) {
            refuses("instruction " + i, x, INDEX, () -> call.answer(i));
        }
    }

    /** a to d may be 0 to MAX, e to h are 0 to 100. */
    private static OverflowGuards wide(String text) {
        OverflowGuards x = Due.with(text);
        for (int v = 0; v < 4; v++) {
            x.setRange(v, 0, MAX);
        }
        return x;
    }

    /** Joined, kept, begin, hoisted, end, dropped, a copy, kept (the analysis ends), dead. */
    private static OverflowGuards everyState() {
        OverflowGuards x = wide("e=a+b;f=e+c;3{g=g+d;}h=h-1;b=9999;b=a*b;c=h+1;");
        x.setRange(0, TOP, TOP);
        return x;
    }

    private static final int[] EVERY_STATE = {2, 4, NONE, 3, NONE, 1, NONE, 4, 0};

    private static void newObject() {
        DOC.heading("## Promise 1: A new object");
        DOC.says("`OverflowGuards()`: Creates an optimizer with a program without instructions, an empty text, "
                + "and the initial inputs.");
        OverflowGuards x = new OverflowGuards();
        same("instructions", x.instructions(), 0);
        same("text", x.clearText(), 0);
        for (int v = 0; v < 8; v++) {
            same("low end of " + v, x.input(v, 0), 0);
            same("high end of " + v, x.input(v, 1), 100);
            same("input of " + v, x.input(v, 2), 0);
        }
        refuses("no state is saved", x, STATE, x::undo);
    }

    private static void append() {
        DOC.heading("## Promise 2: append");
        DOC.says("`int append(int value) throws IllegalArgumentException, IllegalStateException`: Appends a byte "
                + "to the program text.");
        OverflowGuards x = new OverflowGuards();
        for (char sign : new char[] {'b', '=', '9', ';'}) {
            x.append(sign);
        }
        same("the text has these bytes in their order", x.parse(), 1);
        same("b = 9", x.result(1, false), 9);
        DOC.says("- `value`: the byte, 0 to 127");
        for (int value = 0; value <= 127; value++) {
            same("byte " + value, x.append(value), 5 + value);
        }
        DOC.says("Returns the new length of the text.");
        x.clearText();
        for (int n = 1; n <= 200; n++) {
            same("length", x.append('a'), n);
        }
        DOC.says("Throws `IllegalArgumentException` if value is out of range");
        OverflowGuards y = new OverflowGuards();
        for (int value : new int[] {-1, 128, MIN, MAX}) {
            refuses("byte " + value, y, ARGUMENT, () -> y.append(value));
            refuses("byte " + value + " for a full text", x, ARGUMENT, () -> x.append(value));
        }
        DOC.says("Throws `IllegalStateException` if the text has 200 bytes");
        refuses("byte 201", x, STATE, () -> x.append('a'));
        same("200 yet", x.clearText(), 200);
    }

    private static void clearText() {
        DOC.heading("## Promise 3: clearText");
        DOC.says("`int clearText()`: Empties the program text.");
        OverflowGuards x = new OverflowGuards();
        Due.write(x, "a=1;?");
        x.clearText();
        same("it is empty", x.parse(), 0);
        same("its length", x.append('a'), 1);
        DOC.says("Returns the length that it had.");
        same("one", x.clearText(), 1);
        same("none", x.clearText(), 0);
    }

    private static void parse() {
        DOC.heading("## Promise 4: parse");
        DOC.says("`int parse()`: Makes the program the one of the text.");
        OverflowGuards x = Due.with("a=1;b=2;c=3;");
        Due.parsed(x, "h=a*7;");
        same("one instruction", x.instructions(), 1);
        same("its kind", x.instruction(0, 0), 3);
        same("its result", x.instruction(0, 1), 7);
        same("its first operand", x.operand(0, false), 0);
        same("its second operand", x.operand(0, true), 20007);
        DOC.says("The text and the inputs stay as they are.");
        x.setRange(3, -9, 9);
        x.setInput(3, -2);
        x.parse();
        same("the text", x.parse(), 1);
        same("its length", x.clearText(), 6);
        same("a low end", x.input(3, 0), -9);
        same("a high end", x.input(3, 1), 9);
        same("an input", x.input(3, 2), -2);
        DOC.says("Undoable, if there is no syntax error.");
        OverflowGuards y = Due.with("a=1;");
        Due.write(y, "a=2;?");
        y.parse();
        same("the first parse is undone", y.undo(), 0);
        same("no program", y.instructions(), 0);
        refuses("the second is not undoable", y, STATE, y::undo);
        DOC.says("Returns the number of instructions; -10 minus the syntax error position if there is a syntax "
                + "error (then nothing changes).");
        same("none", Due.parsed(y, ""), 0);
        same("three", Due.parsed(y, "2{a=1;}"), 3);
        Due.write(y, "b=2;c=3;}");
        long before = y.digest();
        same("an error", y.parse(), -18);
        same("nothing changes", y.digest(), before);
        same("the program stays", y.instruction(0, 0), 4);
        same("two open loops", Due.parsed(y, "2{3{"), -14);
        same("none is open behind the error", Due.parsed(y, "}"), -10);
    }

    private static void setRange() {
        DOC.heading("## Promise 5: setRange");
        DOC.says("`int setRange(int variable, int low, int high) throws IndexOutOfBoundsException, "
                + "IllegalArgumentException`: Sets the input range of a variable; its input becomes the low end "
                + "if it does not lie in the range.");
        OverflowGuards x = new OverflowGuards();
        x.setInput(2, 60);
        x.setRange(2, 50, 60);
        same("low end", x.input(2, 0), 50);
        same("high end", x.input(2, 1), 60);
        same("it lies in the range", x.input(2, 2), 60);
        x.setRange(2, 40, 59);
        same("above the range", x.input(2, 2), 40);
        x.setRange(2, 41, 99);
        same("below the range", x.input(2, 2), 41);
        same("another variable", x.input(1, 1), 100);
        DOC.says("Undoable.");
        same("undo", x.undo(), 3);
        same("low end before", x.input(2, 0), 40);
        DOC.says("- `variable`: 0 to 7");
        variables(x, v -> x.setRange(v, 0, 9));
        DOC.says("- `low`: the low end, at most high");
        same("equal ends", x.setRange(4, 3, 3), 3);
        same("the low end", x.input(4, 0), 3);
        refuses("greater", x, ARGUMENT, () -> x.setRange(4, 4, 3));
        DOC.says("- `high`: the high end");
        same("the greatest", x.setRange(4, MIN, MAX), 3);
        same("the high end", x.input(4, 1), MAX);
        DOC.says("Returns the input then.");
        same("as it was", x.setRange(4, 0, 5), 3);
        same("the low end", x.setRange(4, 4, 5), 4);
        DOC.says(NO_VARIABLE);
        refuses("variable 8", x, INDEX, () -> x.setRange(8, 0, 1));
        refuses("variable -1 with wrong ends", x, INDEX, () -> x.setRange(-1, 1, 0));
        DOC.says("Throws `IllegalArgumentException` if low is greater than high");
        refuses("by one", x, ARGUMENT, () -> x.setRange(0, 1, 0));
        refuses("by much", x, ARGUMENT, () -> x.setRange(0, MAX, MIN));
    }

    private static void setInput() {
        DOC.heading("## Promise 6: setInput");
        DOC.says("`int setInput(int variable, int value) throws IndexOutOfBoundsException, "
                + "IllegalArgumentException`: Sets the input of a variable.");
        OverflowGuards x = new OverflowGuards();
        x.setInput(5, 44);
        same("the input", x.input(5, 2), 44);
        same("another one", x.input(4, 2), 0);
        same("a run has it", x.result(5, false), 44);
        DOC.says("Undoable.");
        same("undo", x.undo(), 0);
        same("the input before", x.input(5, 2), 0);
        DOC.says("- `variable`: 0 to 7");
        variables(x, v -> x.setInput(v, 9));
        DOC.says("- `value`: the input, in its input range");
        DUE.takes("the low end", () -> x.setInput(0, 0));
        DUE.takes("the high end", () -> x.setInput(0, 100));
        DOC.says("Returns the previous input.");
        same("the high end before", x.setInput(0, 7), 100);
        same("7 before", x.setInput(0, 7), 7);
        DOC.says(NO_VARIABLE);
        refuses("variable 8", x, INDEX, () -> x.setInput(8, 0));
        refuses("variable -1 with a wrong input", x, INDEX, () -> x.setInput(-1, 101));
        DOC.says("Throws `IllegalArgumentException` if value is not in the input range");
        for (int value : new int[] {-1, 101, MIN, MAX}) {
            refuses("input " + value, x, ARGUMENT, () -> x.setInput(0, value));
        }
    }

    private static void input() {
        DOC.heading("## Promise 7: input");
        DOC.says("`int input(int variable, int what) throws IndexOutOfBoundsException, IllegalArgumentException`: "
                + "Returns something about the input of a variable.");
        OverflowGuards x = new OverflowGuards();
        x.setRange(6, -30, 30);
        x.setInput(6, 12);
        same("of variable 6", x.input(6, 2), 12);
        DOC.says("- `variable`: 0 to 7");
        variables(x, v -> x.input(v, 0));
        DOC.says("- `what`: 0 the low end of its input range, 1 the high end, 2 the input");
        DUE.takes("0", () -> x.input(0, 0));
        DUE.takes("1", () -> x.input(0, 1));
        DUE.takes("2", () -> x.input(0, 2));
        DOC.says("Returns that value.");
        same("low end", x.input(6, 0), -30);
        same("high end", x.input(6, 1), 30);
        same("input", x.input(6, 2), 12);
        DOC.says(NO_VARIABLE);
        refuses("variable 8", x, INDEX, () -> x.input(8, 0));
        refuses("variable -1 with a wrong what", x, INDEX, () -> x.input(-1, 3));
        DOC.says("Throws `IllegalArgumentException` if what is out of range");
        for (int what : new int[] {-1, 3, MIN, MAX}) {
            refuses("what " + what, x, ARGUMENT, () -> x.input(0, what));
        }
    }

    private static void remove() {
        DOC.heading("## Promise 8: remove");
        DOC.says("`int remove(int instruction) throws IndexOutOfBoundsException, IllegalStateException`: Removes "
                + "an instruction that is neither a loop begin nor a loop end; the numbers of those behind it "
                + "decrease by 1.");
        OverflowGuards x = Due.with("a=1;2{b=2;c=3-1;}d=4;");
        x.remove(2);
        int[][] due = {{0, 0, 0, NONE}, {4, 2, 0, 3}, {2, 2, 1, NONE}, {5, NONE, 0, 1}, {0, 3, 0, NONE}};
        for (int i = 0; i < due.length; i++) {
            for (int what = 0; what <= 3; what++) {
                same("instruction " + i + ", " + what, x.instruction(i, what), due[i][what]);
            }
        }
        same("first operand", x.operand(2, false), 20003);
        same("second operand", x.operand(2, true), 20001);
        same("it is not executed", x.result(1, false), 0);
        same("the others are", x.result(3, false), 4);
        DOC.says("Undoable.");
        same("undo", x.undo(), 1);
        same("it is there again", x.instruction(2, 1), 1);
        same("it is executed", x.result(1, false), 2);
        DOC.says("- `instruction`: number of an instruction");
        DUE.takes("the first", () -> x.remove(0));
        DUE.takes("the last", () -> x.remove(4));
        DOC.says("Returns the number of instructions that are left.");
        same("three", x.remove(1), 3);
        same("two", x.remove(1), 2);
        DOC.says(NO_INSTRUCTION);
        for (int i : new int[] {-1, 2, MIN, MAX}) {
            refuses("instruction " + i, x, INDEX, () -> x.remove(i));
        }
        DOC.says("Throws `IllegalStateException` if it is a loop begin or a loop end");
        refuses("loop begin", x, STATE, () -> x.remove(0));
        refuses("loop end", x, STATE, () -> x.remove(1));
    }

    private static void instructions() {
        DOC.heading("## Promise 9: instructions");
        DOC.says("`int instructions()`: Returns the number of instructions.");
        OverflowGuards x = Due.with("a=1;2{b=2;}");
        same("four", x.instructions(), 4);
        x.remove(0);
        same("three", x.instructions(), 3);
        x.undo();
        same("four again", x.instructions(), 4);
        DOC.says("Returns 0 to 30.");
        same("0", new OverflowGuards().instructions(), 0);
        same("30", Due.with("a=1;".repeat(30)).instructions(), 30);
    }

    private static void instruction() {
        DOC.heading("## Promise 10: instruction");
        DOC.says("`int instruction(int instruction, int what) throws IndexOutOfBoundsException, "
                + "IllegalArgumentException`: Returns something about an instruction.");
        OverflowGuards x = Due.with("f=1;g=2+3;h=2-3;20{d=2*3;4{e=5;}}");
        same("of instruction 2", x.instruction(2, 0), 2);
        DOC.says("- `instruction`: number of an instruction");
        numbers(Due.with("a=1;b=2;"), i -> Due.with("a=1;b=2;").instruction(i, 0));
        DOC.says("- `what`: 0 its kind, 1 its result variable (the count for a loop begin, NONE for a loop end), "
                + "2 the number of loops in which it lies (for a loop begin and a loop end, those around the "
                + "loop), 3 the number of its loop end or loop begin (for a loop begin or a loop end, otherwise "
                + "NONE)");
        int[][] due = {
            {0, 5, 0, NONE}, {1, 6, 0, NONE}, {2, 7, 0, NONE}, {4, 20, 0, 8}, {3, 3, 1, NONE}, {4, 4, 1, 7},
            {0, 4, 2, NONE}, {5, NONE, 1, 5}, {5, NONE, 0, 3},
        };
        for (int i = 0; i < due.length; i++) {
            for (int what = 0; what <= 3; what++) {
                same("instruction " + i + ", " + what, x.instruction(i, what), due[i][what]);
            }
        }
        DOC.says("Returns that value.");
        same("the inner loop's end", x.instruction(5, 3), 7);
        DOC.says(NO_INSTRUCTION);
        for (int i : new int[] {-1, 9, MIN, MAX}) {
            refuses("instruction " + i, x, INDEX, () -> x.instruction(i, 0));
            refuses("instruction " + i + " with a wrong what", x, INDEX, () -> x.instruction(i, 4));
        }
        DOC.says("Throws `IllegalArgumentException` if what is out of range");
        for (int what : new int[] {-1, 4, MIN, MAX}) {
            refuses("what " + what, x, ARGUMENT, () -> x.instruction(0, what));
        }
    }

    private static void operand() {
        DOC.heading("## Promise 11: operand");
        DOC.says("`int operand(int instruction, boolean second) throws IndexOutOfBoundsException`: Returns an "
                + "operand of an instruction.");
        OverflowGuards x = Due.with("a=c-d;b=_7;2{e=0*_9999;}");
        same("an operand", x.operand(0, false), 2);
        DOC.says("- `instruction`: number of an instruction");
        numbers(Due.with("a=1;b=2;"), i -> Due.with("a=1;b=2;").operand(i, false));
        DOC.says("- `second`: true for the second operand, false for the first one");
        same("the second", x.operand(0, true), 3);
        same("the first", x.operand(0, false), 2);
        DOC.says("Returns the number of a variable, or 20000 + the constant; NONE if the instruction has no such "
                + "operand.");
        int[][] due = {{2, 3}, {19993, NONE}, {NONE, NONE}, {20000, 10001}, {NONE, NONE}};
        for (int i = 0; i < due.length; i++) {
            same("first of " + i, x.operand(i, false), due[i][0]);
            same("second of " + i, x.operand(i, true), due[i][1]);
        }
        DOC.says(NO_INSTRUCTION);
        refuses("instruction 5", x, INDEX, () -> x.operand(5, true));
        refuses("instruction -1", x, INDEX, () -> x.operand(-1, false));
    }

    private static void state() {
        DOC.heading("## Promise 12: state");
        DOC.says("`int state(int instruction) throws IndexOutOfBoundsException`: Returns the state of the check of "
                + "an instruction.");
        OverflowGuards x = everyState();
        same("the state of 3", x.state(3), 3);
        x.setRange(3, 0, 5);
        same("with another range", x.state(3), 1);
        x.undo();
        DOC.says("- `instruction`: number of an instruction");
        numbers(Due.with("a=1;b=c+2;"), i -> Due.with("a=1;b=c+2;").state(i));
        DOC.says("Returns 0 to 4 as described above; NONE if it has no check.");
        for (int i = 0; i < EVERY_STATE.length; i++) {
            same("state of " + i, x.state(i), EVERY_STATE[i]);
        }
        DOC.says(NO_INSTRUCTION);
        refuses("instruction 9", x, INDEX, () -> x.state(9));
        refuses("instruction -1", x, INDEX, () -> x.state(-1));
    }

    private static void states() {
        DOC.heading("## Promise 13: states");
        DOC.says("`int states(int state) throws IllegalArgumentException`: Counts the instructions whose check is "
                + "in a state.");
        OverflowGuards x = everyState();
        same("kept ones", x.states(4), 2);
        DOC.says("- `state`: 0 to 4");
        for (int state = 0; state <= 4; state++) {
            int which = state;
            DUE.takes("state " + state, () -> x.states(which));
        }
        DOC.says("Returns their number.");
        int[] due = {1, 1, 1, 1, 2};
        for (int state = 0; state <= 4; state++) {
            same("state " + state, x.states(state), due[state]);
        }
        same("thirty", wide("a=b*c;".repeat(30)).states(4), 30);
        DOC.says("Throws `IllegalArgumentException` if state is out of range");
        for (int state : new int[] {-1, 5, MIN, MAX}) {
            refuses("state " + state, x, ARGUMENT, () -> x.states(state));
        }
    }

    private static void coveredBy() {
        DOC.heading("## Promise 14: coveredBy");
        DOC.says("`int coveredBy(int instruction) throws IndexOutOfBoundsException`: Returns the instruction that "
                + "covers a joined one.");
        OverflowGuards x = wide("h=1;e=a+b;g=1;f=e+c;2{}");
        same("its cover", x.coveredBy(1), 3);
        DOC.says("- `instruction`: number of an instruction");
        numbers(Due.with("a=1;b=c+2;"), i -> Due.with("a=1;b=c+2;").coveredBy(i));
        DOC.says("Returns the number of the covering instruction; NONE if the instruction is not joined.");
        for (int i = 0; i < 6; i++) {
            same("cover of " + i, x.coveredBy(i), i == 1 ? 3 : NONE);
        }
        x.remove(0);
        same("its number has decreased", x.coveredBy(0), 2);
        DOC.says(NO_INSTRUCTION);
        refuses("instruction 5", x, INDEX, () -> x.coveredBy(5));
        refuses("instruction -1", x, INDEX, () -> x.coveredBy(-1));
    }

    private static void range() {
        DOC.heading("## Promise 15: range");
        DOC.says("`long range(int instruction, boolean high) throws IndexOutOfBoundsException, "
                + "IllegalStateException`: Returns an end of the range of all results of an instruction: the "
                + "smallest range that contains the ranges of its exact results, before they are cut, at all of "
                + "its executions in the analysis.");
        OverflowGuards x = Due.with("3{b=a*a;a=a-50;}");
        // a is 0 to 100, then -50 to 50, then -100 to 0
        same("low end of the products", x.range(1, false), -2500);
        same("high end of the products", x.range(1, true), 10000);
        same("low end of the differences", x.range(2, false), -150);
        same("high end of the differences", x.range(2, true), 50);
        x.setRange(0, MIN, MAX);
        same("before it is cut, low", x.range(1, false), (long) MIN * MAX);
        same("before it is cut, high", x.range(1, true), (long) MIN * MIN);
        DOC.says("- `instruction`: number of an instruction of the kinds 0 to 3");
        numbers(Due.with("a=1;b=2+1;c=2-1;d=2*1;"), i -> Due.with("a=1;b=2+1;c=2-1;d=2*1;").range(i, true));
        DOC.says("- `high`: true for the high end, false for the low end");
        OverflowGuards copy = Due.with("b=a;");
        copy.setRange(0, -7, 8);
        same("high end", copy.range(0, true), 8);
        same("low end", copy.range(0, false), -7);
        DOC.says("Returns that end; 0 if the analysis has not reached it.");
        OverflowGuards ends = Due.with("b=a+a;c=7;d=c+7;");
        ends.setRange(0, TOP, MAX);
        same("where it ends, low", ends.range(0, false), 2L * TOP);
        same("where it ends, high", ends.range(0, true), 2L * MAX);
        for (int i = 1; i < 3; i++) {
            same("low end of " + i, ends.range(i, false), 0);
            same("high end of " + i, ends.range(i, true), 0);
        }
        DOC.says(NO_INSTRUCTION);
        refuses("instruction 4", x, INDEX, () -> x.range(4, true));
        refuses("instruction -1", x, INDEX, () -> x.range(-1, true));
        DOC.says("Throws `IllegalStateException` if it is a loop begin or a loop end");
        refuses("loop begin", x, STATE, () -> x.range(0, true));
        refuses("loop end", x, STATE, () -> x.range(3, false));
    }

    private static void finalRange() {
        DOC.heading("## Promise 16: finalRange");
        DOC.says("`int finalRange(int variable, boolean high) throws IndexOutOfBoundsException`: Returns an end of "
                + "the range of a variable at the end of the analysis.");
        OverflowGuards x = Due.with("2{a=a+b;}c=a*_1;");
        x.setRange(1, 10, MAX);
        same("a sum that is cut", x.finalRange(0, true), MAX);
        same("twice 10 more", x.finalRange(0, false), 20);
        DOC.says("- `variable`: 0 to 7");
        variables(x, v -> x.finalRange(v, true));
        DOC.says("- `high`: true for the high end, false for the low end");
        same("the high end", x.finalRange(2, true), -20);
        same("the low end", x.finalRange(2, false), -MAX);
        DOC.says("Returns that end; 0 if the analysis has ended before the end of the program.");
        same("an unused variable", x.finalRange(7, true), 100);
        x.setRange(1, TOP, MAX);
        for (int v = 0; v < 8; v++) {
            same("ended, low end of " + v, x.finalRange(v, false), 0);
            same("ended, high end of " + v, x.finalRange(v, true), 0);
        }
        DOC.says(NO_VARIABLE);
        refuses("variable 8", x, INDEX, () -> x.finalRange(8, true));
        refuses("variable -1", x, INDEX, () -> x.finalRange(-1, false));
    }

    private static void completes() {
        DOC.heading("## Promise 17: completes");
        DOC.says("`boolean completes()`: Tells whether the analysis has reached the end of the program.");
        OverflowGuards x = Due.with("b=a+a;");
        DUE.yes("it has", x.completes());
        x.setRange(0, TOP - 1, MAX);
        DUE.yes("it has with one number left", x.completes());
        DOC.says("Returns whether it has.");
        x.setRange(0, TOP, MAX);
        DUE.yes("it has not", !x.completes());
        x.undo();
        DUE.yes("it has again", x.completes());
    }

    private static void failure() {
        DOC.heading("## Promise 18: failure");
        DOC.says("`int failure(boolean optimized)`: Returns the number of the instruction at which a run fails.");
        OverflowGuards x = wide("g=1;e=a+b;h=2;f=e+c;");
        x.setInput(0, MAX);
        x.setInput(2, 1);
        same("the second sum", x.failure(false), 3);
        DOC.says("- `optimized`: true for the optimized run, false for the plain run");
        same("the second sum, optimized", x.failure(true), 3);
        // the one call whose answers differ: by the word the last cover's exact result is an int
        OverflowGuards differs = wide("e=a+b;f=e+c;g=d-e;f=f+c;f=f+g;");
        differs.setRange(3, MAX, MAX);
        differs.setInput(0, MAX);
        differs.setInput(1, 5);
        same("the plain run", differs.failure(false), 0);
        same("the optimized run", differs.failure(true), NONE);
        DOC.says("Returns the number of the instruction; NONE if it does not fail.");
        x.setInput(1, 1);
        same("the first sum", x.failure(false), 1);
        same("the first sum, optimized", x.failure(true), 1);
        x.setInput(0, 0);
        same("it does not fail", x.failure(false), NONE);
        same("it does not fail, optimized", x.failure(true), NONE);
    }

    private static void result() {
        DOC.heading("## Promise 19: result");
        DOC.says("`int result(int variable, boolean optimized) throws IndexOutOfBoundsException`: Returns the value "
                + "of a variable at the end of a run.");
        OverflowGuards x = wide("3{e=e+a;}f=e*_2;");
        x.setInput(0, 11);
        x.setInput(4, 1);
        same("e", x.result(4, false), 34);
        same("f", x.result(5, false), -68);
        same("an input", x.result(0, false), 11);
        DOC.says("- `variable`: 0 to 7");
        variables(x, v -> x.result(v, false));
        DOC.says("- `optimized`: true for the optimized run, false for the plain run");
        same("e, optimized", x.result(4, true), 34);
        OverflowGuards differs = wide("e=a+b;f=e+c;g=d-e;f=f+c;f=f+g;");
        differs.setRange(3, MAX, MAX);
        differs.setInput(0, MAX);
        differs.setInput(1, 5);
        same("g of the plain run", differs.result(6, false), 0);
        same("g of the optimized run", differs.result(6, true), -5);
        DOC.says("Returns the value.");
        x.setInput(0, MAX);
        same("e at the failure", x.result(4, false), 1);
        same("e at the failure, optimized", x.result(4, true), 1);
        same("f is not reached", x.result(5, true), 0);
        DOC.says(NO_VARIABLE);
        refuses("variable 8", x, INDEX, () -> x.result(8, false));
        refuses("variable -1", x, INDEX, () -> x.result(-1, true));
    }

    private static void checks() {
        DOC.heading("## Promise 20: checks");
        DOC.says("`int checks(boolean optimized)`: Returns the number of checks of a run.");
        OverflowGuards x = wide("6{e=e+a;f=h-1;g=h*1;}h=b;");
        same("18 checks", x.checks(false), 18);
        DOC.says("- `optimized`: true for the optimized run, false for the plain run");
        same("one check", x.checks(true), 1);
        DOC.says("Returns the number of checks.");
        x.setInput(0, TOP);
        // the second sum fails: 3 checks in the first round, 1 in the second
        same("plain", x.checks(false), 4);
        same("optimized: one ahead and both sums", x.checks(true), 3);
        same("none", new OverflowGuards().checks(false), 0);
    }

    private static void executed() {
        DOC.heading("## Promise 21: executed");
        DOC.says("`int executed()`: Returns the number of instructions of the kinds 0 to 3 that the plain run has "
                + "executed completely.");
        OverflowGuards x = wide("e=1;f=h+1;g=h-1;h=h*1;");
        same("each kind", x.executed(), 4);
        Due.parsed(x, "2{}");
        same("no loop begin and no loop end", x.executed(), 0);
        DOC.says("Returns their number (an instruction counts each time).");
        Due.parsed(x, "3{e=e+a;4{f=1;}}");
        same("each time", x.executed(), 15);
        x.setInput(0, TOP);
        same("not the failed one", x.executed(), 5);
    }

    private static void saving() {
        DOC.heading("## Promise 22: saving");
        DOC.says("`double saving()`: Returns the share of checks that the optimized run saves.");
        OverflowGuards x = wide("4{e=e+a;}");
        DUE.sameDouble("three of four", x.saving(), 0.75);
        DOC.says("Returns 1.0 minus (the number of checks of the optimized run, converted to double, divided by "
                + "that of the plain run, converted to double); 0.0 if the plain run has no checks.");
        Due.parsed(x, "7{e=e+a;f=f+b;}");
        DUE.sameDouble("2 of 14 are left", x.saving(), 1.0 - 2.0 / 14.0);
        x.setInput(0, MAX);
        x.setInput(4, 1);
        DUE.sameDouble("3 checks in place of 1", x.saving(), 1.0 - 3.0 / 1.0);
        Due.parsed(x, "7{e=a;}");
        DUE.sameDouble("no checks", x.saving(), 0.0);
        Due.parsed(x, "e=h+1;");
        DUE.sameDouble("all", x.saving(), 1.0);
    }

    private static void openWith() {
        DOC.heading("## Promise 23: openWith");
        DOC.says("`int openWith(int variable, int low, int high) throws IndexOutOfBoundsException, "
                + "IllegalArgumentException`: Counts the checks that could fail (states 2 to 4) if the input range "
                + "of a variable were another one.");
        OverflowGuards x = Due.with("e=a+b;f=e+c;3{g=g+a;}h=a*1;");
        long before = x.digest();
        same("joined, kept and hoisted", x.openWith(0, 0, MAX), 3);
        same("none", x.openWith(0, 0, 100), 0);
        same("nothing has changed", x.digest(), before);
        x.setRange(0, 0, MAX);
        same("a smaller range", x.openWith(0, 0, 9), 0);
        same("the range of another variable", x.openWith(7, MIN, MAX), 3);
        DOC.says("- `variable`: 0 to 7");
        variables(x, v -> x.openWith(v, 0, 1));
        DOC.says("- `low`: the low end, at most high");
        // g may be 0 already, and 3 * 715827882 = MAX - 1
        same("equal ends", x.openWith(0, 715827882, 715827882), 1);
        refuses("greater", x, ARGUMENT, () -> x.openWith(0, 6, 5));
        DOC.says("- `high`: the high end");
        same("100 + 3 * 715827849 = MAX", x.openWith(0, 0, 715827849), 0);
        same("over MAX", x.openWith(0, 0, 715827850), 1);
        DOC.says("Returns the number of instructions in these states.");
        same("thirty", Due.with("b=a+a;".repeat(30)).openWith(0, 0, MAX), 30);
        same("those behind the end are dead", Due.with("b=a+a;".repeat(30)).openWith(0, MAX, MAX), 1);
        DOC.says(NO_VARIABLE);
        refuses("variable 8", x, INDEX, () -> x.openWith(8, 0, 1));
        refuses("variable -1 with wrong ends", x, INDEX, () -> x.openWith(-1, 1, 0));
        DOC.says("Throws `IllegalArgumentException` if low is greater than high");
        refuses("by one", x, ARGUMENT, () -> x.openWith(0, 1, 0));
        refuses("by much", x, ARGUMENT, () -> x.openWith(0, MAX, MIN));
    }

    private static void safePower() {
        DOC.heading("## Promise 24: safePower");
        DOC.says("`int safePower(int variable) throws IndexOutOfBoundsException`: Finds the greatest power of two, "
                + "1 to 2^30, such that no check could fail if the input range of a variable went from its present "
                + "low end to this power minus 1, and neither with any smaller power from the first one on that is "
                + "not below the low end plus 1.");
        OverflowGuards x = Due.with("b=a*c;");
        for (int bits = 0; bits <= 30; bits++) {
            // (2^bits - 1) * c is an int, (2^(bits + 1) - 1) * c is not
            int c = bits == 0 ? MAX : MAX / ((1 << bits) - 1);
            x.setRange(2, c, c);
            long due = bits == 0 ? 2 : (long) c * ((2L << bits) - 1) > MAX ? 1L << bits : TOP;
            same("2^" + bits, x.safePower(0), Math.min(due, TOP));
        }
        same("another variable", x.safePower(7), TOP);
        Due.parsed(x, "b=a+c;");
        x.setRange(2, 0, MAX);
        same("2^0", x.safePower(0), 1);
        Due.parsed(x, "b=a*c;");
        // at the low end -2 the product with -2^30 fails, whatever the power is
        x.setRange(2, -TOP, -TOP);
        x.setRange(0, -1, 9);
        same("a low end that does not fail", x.safePower(0), 2);
        x.setRange(0, -2, 9);
        same("a low end that fails", x.safePower(0), 0);
        Due.parsed(x, "");
        x.setRange(0, TOP - 1, MAX);
        same("the first power is the greatest", x.safePower(0), TOP);
        x.setRange(0, TOP, MAX);
        same("all are below the low end plus 1", x.safePower(0), 0);
        DOC.says("- `variable`: 0 to 7");
        variables(x, v -> x.safePower(v));
        DOC.says("Returns the power; 0 if there is none.");
        OverflowGuards y = Due.with("b=c+1;d=a+a;");
        same("the power", y.safePower(0), TOP);
        y.setRange(2, 0, MAX);
        same("another check can fail", y.safePower(0), 0);
        DOC.says(NO_VARIABLE);
        refuses("variable 8", y, INDEX, () -> y.safePower(8));
        refuses("variable -1", y, INDEX, () -> y.safePower(-1));
    }

    private static void failingInput() {
        DOC.heading("## Promise 25: failingInput");
        DOC.says("`int failingInput(int variable) throws IndexOutOfBoundsException`: Finds the smallest input of a "
                + "variable, from its present input up to 200 more and within its input range, with which the plain "
                + "run fails.");
        OverflowGuards x = Due.with("b=a*3;");
        x.setRange(0, 0, MAX);
        // 3 * 715827883 > MAX
        x.setInput(0, 715827683);
        same("200 more", x.failingInput(0), 715827883);
        x.setInput(0, 715827682);
        same("201 more", x.failingInput(0), MIN);
        x.setInput(0, 715827884);
        same("the present one", x.failingInput(0), 715827884);
        x.setRange(0, 0, 715827882);
        x.setInput(0, 715827800);
        same("not in its input range", x.failingInput(0), MIN);
        x.setRange(0, 0, 715827883);
        same("the high end", x.failingInput(0), 715827883);
        long before = x.digest();
        x.failingInput(0);
        same("nothing has changed", x.digest(), before);
        // with c = 2 inputs from 90 on fail, with c = 3 those from 60 on; by ranges all can fail
        OverflowGuards y = Due.with("b=a-a;b=b*9999;b=b*9999;b=b*9999;d=a*c;d=d+e;");
        y.setRange(4, MAX - 179, MAX - 179);
        y.setRange(0, 0, 1000);
        y.setInput(2, 2);
        same("with the inputs of the others", y.failingInput(0), 90);
        y.setInput(2, 3);
        same("with another input of c", y.failingInput(0), 60);
        y.setInput(0, 61);
        same("from 61 on", y.failingInput(0), 61);
        y.setInput(2, 1);
        same("up to 261", y.failingInput(0), 180);
        y.setInput(2, 0);
        same("none of 201 fails", y.failingInput(0), MIN);
        DOC.says("- `variable`: 0 to 7");
        variables(x, v -> x.failingInput(v));
        DOC.says("Returns the input; Integer.MIN_VALUE if there is none.");
        same("of another variable", x.failingInput(1), MIN);
        x.setInput(0, 715827883);
        x.setInput(1, 50);
        same("each input of another variable", x.failingInput(1), 50);
        DOC.says(NO_VARIABLE);
        refuses("variable 8", x, INDEX, () -> x.failingInput(8));
        refuses("variable -1", x, INDEX, () -> x.failingInput(-1));
    }

    private static void undo() {
        DOC.heading("## Promise 26: undo");
        DOC.says("`int undo() throws IllegalStateException`: Restores the most recently saved state and removes it "
                + "from the saved states.");
        OverflowGuards x = Due.with("b=a+1;");
        x.setRange(0, 5, 9);
        x.setInput(0, 7);
        x.undo();
        same("the input", x.input(0, 2), 5);
        same("the result", x.result(1, true), 6);
        x.undo();
        same("the range", x.input(0, 1), 100);
        same("the end of the analysis", x.finalRange(1, true), 101);
        DOC.says("Returns the number of saved states that remain.");
        same("none remains", x.undo(), 0);
        same("no program", x.instructions(), 0);
        for (int n = 0; n < 9; n++) {
            x.setInput(0, n);
        }
        same("three remain", x.undo(), 3);
        same("two remain", x.undo(), 2);
        same("two are undone", x.input(0, 2), 6);
        DOC.says("Throws `IllegalStateException` if there is no saved state");
        refuses("a new object", new OverflowGuards(), STATE, new OverflowGuards()::undo);
        x.undo();
        x.undo();
        refuses("all are used", x, STATE, x::undo);
    }

    private static void digest() {
        DOC.heading("## Promise 27: digest");
        DOC.says("`long digest()`: Returns a hash of the state.");
        OverflowGuards x = everyState();
        same("of the same state", x.digest(), everyState().digest());
        x.setInput(7, 1);
        DUE.yes("of another state", x.digest() != everyState().digest());
        DOC.says("Start with h = 2953 and, for each of the following values v, set h = 31 * h + v: the length of "
                + "the text; the number of instructions and, for each of them, the values of instruction() for what "
                + "= 0 to 3, both operands as operand() tells them, state() and coveredBy(); for each variable the "
                + "values of input() for what = 0 to 2 and both ends of finalRange(), the low end first; failure(), "
                + "the results of all variables, and checks(), first of the plain run, then of the optimized run; "
                + "executed(); the number of saved states.");
        same("every state", x.digest(), byFace(x, 46, 4));
        x.undo();
        same("three saved states", x.digest(), byFace(x, 46, 3));
        OverflowGuards loops = wide("2{e=e+a;3{f=f+b;}}g=c*_7;");
        loops.setInput(0, 5);
        loops.setRange(1, -9, MAX);
        same("loops", loops.digest(), byFace(loops, 25, 4));
        loops.setInput(0, MAX);
        loops.clearText();
        same("failing, without a text", loops.digest(), byFace(loops, 0, 4));
        OverflowGuards differs = wide("e=a+b;f=e+c;g=d-e;f=f+c;f=f+g;");
        differs.setRange(3, MAX, MAX);
        differs.setInput(0, MAX);
        differs.setInput(1, 5);
        same("the plain run first", differs.digest(), byFace(differs, 30, 4));
        DOC.says("Returns the hash, with the overflow of long arithmetic ignored.");
        // 8 variables alone take h far over the longs
        long h = 31 * (31 * 2953L + 0) + 0;
        for (int n = 0; n < 8; n++) {
            for (int v : new int[] {0, 100, 0, 0, 100}) {
                h = 31 * h + v;
            }
        }
        for (int run = 0; run < 2; run++) {
            for (int v : new int[] {-1, 0, 0, 0, 0, 0, 0, 0, 0, 0}) {
                h = 31 * h + v;
            }
        }
        same("a new object", new OverflowGuards().digest(), 31 * (31 * h));
    }

    private static long byFace(OverflowGuards x, int length, int saved) {
        long h = 31 * (31 * 2953L + length) + x.instructions();
        for (int i = 0; i < x.instructions(); i++) {
            for (int what = 0; what <= 3; what++) {
                h = 31 * h + x.instruction(i, what);
            }
            for (int v : new int[] {x.operand(i, false), x.operand(i, true), x.state(i), x.coveredBy(i)}) {
                h = 31 * h + v;
            }
        }
        for (int v = 0; v < 8; v++) {
            for (int what = 0; what <= 2; what++) {
                h = 31 * h + x.input(v, what);
            }
            h = 31 * (31 * h + x.finalRange(v, false)) + x.finalRange(v, true);
        }
        for (int mode = 0; mode < 2; mode++) {
            h = 31 * h + x.failure(mode == 1);
            for (int v = 0; v < 8; v++) {
                h = 31 * h + x.result(v, mode == 1);
            }
            h = 31 * h + x.checks(mode == 1);
        }
        return 31 * (31 * h + x.executed()) + saved;
    }

    private static void notPromised() {
        DOC.heading("## Not promised");
        DOC.tells("How the state is held inside the object is free, as are the speed of each call, the text of "
                + "toString and the behaviour of equals and hashCode.");
        DOC.tells("Use of one object from several threads at once is not promised to be safe.");
        DOC.tells("Nothing is promised beyond the answers and state changes described above, and nothing about an "
                + "object after its 512th call.");
    }
}
