/** Each promise of the document: ordinary inputs, its edges, and wrong inputs. */
public final class PromisesTest {
    private static final int MIN = Integer.MIN_VALUE;
    private static final int MAX = Integer.MAX_VALUE;
    private static final int NONE = OverflowGuards.NONE;
    private static final Class<IndexOutOfBoundsException> INDEX = IndexOutOfBoundsException.class;
    private static final Class<IllegalArgumentException> ARGUMENT = IllegalArgumentException.class;
    private static final Class<IllegalStateException> STATE = IllegalStateException.class;
    private static final Due DUE = new Due();

    public static void main(String[] args) {
        promise1NewObject();
        promise2Append();
        promise3ClearText();
        promise4Parse();
        promise4Limits();
        promise5SetRange();
        promise6SetInput();
        promise7Input();
        promise8Remove();
        promise9Instructions();
        promise10Instruction();
        promise11Operand();
        promise12State();
        promise12Joined();
        promise12NotJoined();
        promise12Hoisted();
        promise12NotHoisted();
        promise13States();
        promise14CoveredBy();
        promise15Range();
        promise16FinalRange();
        promise17Completes();
        promise18Failure();
        promise19Result();
        promise20Checks();
        promise21Executed();
        promise22Saving();
        promise23OpenWith();
        promise24SafePower();
        promise25FailingInput();
        promise26Undo();
        promise27Digest();
        DUE.end();
    }

    private static void same(String what, long got, long want) {
        DUE.same(what, got, want);
    }

    private static void wide(OverflowGuards x, String letters) {
        for (int i = 0; i < letters.length(); i++) {
            x.setRange(letters.charAt(i) - 'a', 0, MAX);
        }
    }

    private static OverflowGuards wideWith(String letters, String text) {
        OverflowGuards x = Due.with(text);
        wide(x, letters);
        return x;
    }

    private static void promise1NewObject() {
        OverflowGuards x = new OverflowGuards();
        same("1 instructions", x.instructions(), 0);
        same("1 text", x.clearText(), 0);
        for (int v = 0; v < 8; v++) {
            same("1 low", x.input(v, 0), 0);
            same("1 high", x.input(v, 1), 100);
            same("1 input", x.input(v, 2), 0);
            same("1 final low", x.finalRange(v, false), 0);
            same("1 final high", x.finalRange(v, true), 100);
            same("1 result", x.result(v, false), 0);
        }
        DUE.yes("1 completes", x.completes());
        same("1 failure", x.failure(true), NONE);
        DUE.refuses("1 undo", x, STATE, () -> x.undo());
    }

    private static void promise2Append() {
        OverflowGuards x = new OverflowGuards();
        same("2 byte 0", x.append(0), 1);
        same("2 byte 127", x.append(127), 2);
        DUE.refuses("2 byte -1", x, ARGUMENT, () -> x.append(-1));
        DUE.refuses("2 byte 128", x, ARGUMENT, () -> x.append(128));
        DUE.refuses("2 byte MIN", x, ARGUMENT, () -> x.append(MIN));
        for (int n = 3; n <= 200; n++) {
            same("2 append", x.append('a'), n);
        }
        DUE.refuses("2 byte 201", x, STATE, () -> x.append('a'));
        DUE.refuses("2 the first listed", x, ARGUMENT, () -> x.append(128));
        same("2 length", x.clearText(), 200);
        same("2 after clearText", x.append('a'), 1);
    }

    private static void promise3ClearText() {
        OverflowGuards x = Due.with("a=1;");
        long before = x.digest();
        same("3 length", x.clearText(), 4);
        same("3 again", x.clearText(), 0);
        same("3 program stays", x.instructions(), 1);
        same("3 not undoable", x.undo(), 0);
        DUE.yes("3 digest has the length", x.digest() != before);
    }

    private static void error(String text, int position) {
        OverflowGuards x = Due.with("b=7;");
        Due.write(x, text);
        long before = x.digest();
        same("4 parse of " + text, x.parse(), -10 - position);
        same("4 nothing changes with " + text, x.digest(), before);
    }

    private static void promise4Parse() {
        OverflowGuards x = new OverflowGuards();
        same("4 empty", Due.parsed(x, ""), 0);
        same("4 undoable", x.undo(), 0);
        x.setRange(0, 5, 9);
        same("4 ordinary", Due.parsed(x, "a=b;c=d+_5;3{e=0012-f;}40{1{g=9999*_9999;}}"), 10);
        same("4 inputs stay", x.input(0, 2), 5);
        same("4 text stays", x.parse(), 10);
        same("4 a count with a zero ahead", Due.parsed(x, "04{}"), 2);
        same("4 its count", x.instruction(0, 1), 4);
        same("4 loop of 40", Due.parsed(x, "40{}"), 2);
        same("4 loop of 1", Due.parsed(x, "1{}"), 2);
        error("a", 1);
        error("a=", 2);
        error("a=b", 3);
        error("a=b+", 4);
        error("a=b+c", 5);
        error("a=_", 3);
        error("a=12", 4);
        error("a=b;2{", 6);
        error("2{a=b;", 6);
        error("2{2{}", 5);
        error("4", 1);
        error("40", 2);
        error("i=1;", 0);
        error("A=1;", 0);
        error(" a=1;", 0);
        error("a =1;", 1);
        error("a==1;", 2);
        error("a=i;", 2);
        error("a=+;", 2);
        error("a=-1;", 2);
        error("a=__1;", 3);
        error("a=_b;", 3);
        error("a=bc;", 3);
        error("a=1b;", 3);
        error("a=b/c;", 3);
        error("a=b+c+d;", 5);
        error("a=b,", 3);
        error(";", 0);
        error("}", 0);
        error("2{}}", 3);
        error("{}", 0);
        error("a=1;" + (char) 0, 4);
        error("a=1;" + (char) 127, 4);
    }

    private static void promise4Limits() {
        error("a=12345;", 6);
        error("a=_12345;", 7);
        error("a=b+12345;", 8);
        error("a=00000;", 6);
        error("0", 0);
        error("00", 0);
        error("0{}", 0);
        error("00{}", 0);
        error("41{}", 0);
        error("41", 0);
        error("99x", 0);
        error("0x", 0);
        error("4x", 1);
        error("40x", 2);
        error("410{}", 2);
        error("400{}", 2);
        error("000{}", 2);
        error("a=1;41{}", 4);
        error("2{41{}}", 2);
        error("2{3{4{}}}", 4);
        error("2{3{0{}}}", 4);
        error("2{3{4", 4);
        String twentyNine = "a=1;".repeat(29);
        OverflowGuards x = new OverflowGuards();
        same("4 thirty", Due.parsed(x, twentyNine + "a=1;"), 30);
        same("4 thirty with a loop", Due.parsed(x, "a=1;".repeat(28) + "2{}"), 30);
        error(twentyNine + "a=1;b=2;", 120);
        error(twentyNine + "a=1;2{}", 120);
        error(twentyNine + "a=1;}", 120);
        error(twentyNine + "a=1;?", 120);
        error(twentyNine + "2{}", 118);
        error(twentyNine + "2{", 118);
        error(twentyNine + "2{a=1;}", 118);
        error("2{" + twentyNine + "}", 118);
        error(twentyNine + "b=", 118);
    }

    private static void promise5SetRange() {
        OverflowGuards x = new OverflowGuards();
        same("5 keeps the input", x.setRange(0, -5, 5), 0);
        same("5 below", x.setRange(0, 3, 9), 3);
        same("5 above", x.setRange(0, -9, -4), -9);
        same("5 widest", x.setRange(0, MIN, MAX), -9);
        same("5 at the low end", x.setRange(0, -9, -9), -9);
        same("5 at the high end", x.setRange(0, MIN, -9), -9);
        same("5 low", x.input(0, 0), MIN);
        same("5 high", x.input(0, 1), -9);
        same("5 others", x.input(1, 1), 100);
        same("5 undoable", x.undo(), 3);
        same("5 undone", x.input(0, 0), -9);
        DUE.refuses("5 low > high", x, ARGUMENT, () -> x.setRange(7, 1, 0));
        DUE.refuses("5 far apart", x, ARGUMENT, () -> x.setRange(7, MAX, MIN));
        DUE.refuses("5 variable 8", x, INDEX, () -> x.setRange(8, 0, 1));
        DUE.refuses("5 variable -1", x, INDEX, () -> x.setRange(-1, 0, 1));
        DUE.refuses("5 the first listed", x, INDEX, () -> x.setRange(8, 1, 0));
    }

    private static void promise6SetInput() {
        OverflowGuards x = new OverflowGuards();
        same("6 previous", x.setInput(7, 100), 0);
        same("6 previous again", x.setInput(7, 0), 100);
        same("6 same value", x.setInput(7, 0), 0);
        same("6 undoable", x.undo(), 2);
        same("6 undoable, too", x.undo(), 1);
        same("6 undone", x.input(7, 2), 100);
        DUE.refuses("6 above", x, ARGUMENT, () -> x.setInput(7, 101));
        DUE.refuses("6 below", x, ARGUMENT, () -> x.setInput(7, -1));
        DUE.refuses("6 variable 8", x, INDEX, () -> x.setInput(8, 0));
        DUE.refuses("6 variable -1", x, INDEX, () -> x.setInput(-1, 0));
        DUE.refuses("6 the first listed", x, INDEX, () -> x.setInput(8, 101));
    }

    private static void promise7Input() {
        OverflowGuards x = new OverflowGuards();
        x.setRange(2, -7, 8);
        x.setInput(2, 5);
        same("7 low", x.input(2, 0), -7);
        same("7 high", x.input(2, 1), 8);
        same("7 input", x.input(2, 2), 5);
        DUE.refuses("7 what 3", x, ARGUMENT, () -> x.input(0, 3));
        DUE.refuses("7 what -1", x, ARGUMENT, () -> x.input(0, -1));
        DUE.refuses("7 variable 8", x, INDEX, () -> x.input(8, 0));
        DUE.refuses("7 variable -1", x, INDEX, () -> x.input(-1, 0));
        DUE.refuses("7 the first listed", x, INDEX, () -> x.input(8, 3));
    }

    private static void promise8Remove() {
        OverflowGuards x = Due.with("a=1;2{b=2;3{c=3;}d=4;}e=5;");
        DUE.refuses("8 loop begin", x, STATE, () -> x.remove(1));
        DUE.refuses("8 inner begin", x, STATE, () -> x.remove(3));
        DUE.refuses("8 loop end", x, STATE, () -> x.remove(7));
        DUE.refuses("8 behind the last", x, INDEX, () -> x.remove(9));
        DUE.refuses("8 in front of the first", x, INDEX, () -> x.remove(-1));
        same("8 in the inner loop", x.remove(4), 8);
        same("8 outer end", x.instruction(1, 3), 6);
        same("8 inner end", x.instruction(3, 3), 4);
        same("8 inner begin", x.instruction(4, 3), 3);
        same("8 outer begin", x.instruction(6, 3), 1);
        same("8 the first", x.remove(0), 7);
        same("8 outer end moves", x.instruction(0, 3), 5);
        same("8 outer begin moves", x.instruction(5, 3), 0);
        same("8 inner loop moves", x.instruction(2, 3), 3);
        same("8 the last", x.remove(6), 6);
        DUE.refuses("8 gone", x, INDEX, () -> x.remove(6));
        same("8 undoable", x.undo(), 3);
        same("8 undone", x.instruction(6, 1), 4);
        OverflowGuards full = Due.with("a=1;".repeat(29) + "b=2;");
        same("8 from thirty", full.remove(0), 29);
        same("8 the last moves", full.instruction(28, 1), 1);
    }

    private static void promise9Instructions() {
        OverflowGuards x = Due.with("a=1;2{}");
        same("9 three", x.instructions(), 3);
        Due.parsed(x, "a=1");
        same("9 after an error", x.instructions(), 3);
        Due.parsed(x, "");
        same("9 none", x.instructions(), 0);
        Due.parsed(x, "h=1;".repeat(30));
        same("9 thirty", x.instructions(), 30);
    }

    private static void promise10Instruction() {
        OverflowGuards x = Due.with("a=1;b=1+1;c=1-1;12{d=1*1;3{h=2;}}");
        int[][] due = {
            {0, 0, 0, NONE}, {1, 1, 0, NONE}, {2, 2, 0, NONE}, {4, 12, 0, 8}, {3, 3, 1, NONE},
            {4, 3, 1, 7}, {0, 7, 2, NONE}, {5, NONE, 1, 5}, {5, NONE, 0, 3},
        };
        for (int i = 0; i < due.length; i++) {
            for (int what = 0; what < 4; what++) {
                same("10 instruction " + i + " " + what, x.instruction(i, what), due[i][what]);
            }
        }
        DUE.refuses("10 what 4", x, ARGUMENT, () -> x.instruction(0, 4));
        DUE.refuses("10 what -1", x, ARGUMENT, () -> x.instruction(0, -1));
        DUE.refuses("10 instruction 9", x, INDEX, () -> x.instruction(9, 0));
        DUE.refuses("10 instruction -1", x, INDEX, () -> x.instruction(-1, 0));
        DUE.refuses("10 the first listed", x, INDEX, () -> x.instruction(9, 4));
    }

    private static void promise11Operand() {
        OverflowGuards x = Due.with("a=h;b=_9999+9999;c=_0-a;2{}");
        int[][] due = {{7, NONE}, {10001, 29999}, {20000, 0}, {NONE, NONE}, {NONE, NONE}};
        for (int i = 0; i < due.length; i++) {
            same("11 first of " + i, x.operand(i, false), due[i][0]);
            same("11 second of " + i, x.operand(i, true), due[i][1]);
        }
        DUE.refuses("11 instruction 5", x, INDEX, () -> x.operand(5, false));
        DUE.refuses("11 instruction -1", x, INDEX, () -> x.operand(-1, true));
    }

    private static void promise12State() {
        OverflowGuards x = Due.with("a=b;c=a+b;d=a-b;e=a*b;2{}");
        int[] due = {NONE, 1, 1, 1, NONE, NONE};
        for (int i = 0; i < due.length; i++) {
            same("12 state " + i, x.state(i), due[i]);
        }
        x.setRange(1, 0, 46340);
        same("12 product at the edge", x.state(3), 1);
        x.setRange(1, 0, 46341);
        same("12 product over the edge", x.state(3), 4);
        OverflowGuards edge = Due.with("c=a+1;d=b-1;");
        edge.setRange(0, 0, MAX - 1);
        edge.setRange(1, MIN + 1, 0);
        same("12 sum at the edge", edge.state(0), 1);
        same("12 difference at the edge", edge.state(1), 1);
        edge.setRange(0, 0, MAX);
        edge.setRange(1, MIN, 0);
        same("12 sum over the edge", edge.state(0), 4);
        same("12 difference over the edge", edge.state(1), 4);
        OverflowGuards same = Due.with("b=a-a;c=a*a;");
        same.setRange(0, MIN, MAX);
        same("12 both operands are independent", same.state(0), 4);
        same("12 a square is independent, too", same.range(1, false), -2147483648L * 2147483647L);
        OverflowGuards dead = Due.with("a=9999*9999;b=a*a;c=a+1;d=a;2{e=e+1;}");
        same("12 where the analysis ends", dead.state(1), 4);
        same("12 dead", dead.state(2), 0);
        same("12 a dead copy has no check", dead.state(3), NONE);
        same("12 dead in a loop", dead.state(5), 0);
        OverflowGuards later = Due.with("2{c=a*a;b=b+1;a=c*c;}");
        later.setRange(0, 9999, 9999);
        same("12 it ends in the first round", later.state(3), 4);
        same("12 reached in the first round", later.state(2), 1);
        DUE.refuses("12 instruction 5", later, INDEX, () -> later.state(5));
        DUE.refuses("12 instruction -1", later, INDEX, () -> later.state(-1));
    }

    private static void joins(String text, String letters, int i, int j) {
        OverflowGuards x = wideWith(letters, text);
        same("12 joined in " + text, x.state(i), 2);
        same("14 cover in " + text, x.coveredBy(i), j);
    }

    private static void joinsNot(String text, String letters, int i) {
        OverflowGuards x = wideWith(letters, text);
        DUE.yes("12 not joined in " + text, x.state(i) == 4 || x.state(i) == 3);
        same("14 no cover in " + text, x.coveredBy(i), NONE);
    }

    private static void promise12Joined() {
        joins("d=a+b;e=d+c;", "abc", 0, 1);
        joins("d=a+b;e=c+d;", "abc", 0, 1);
        joins("d=a+b;d=d+c;", "abc", 0, 1);
        joins("a=a+b;a=a+c;", "abc", 0, 1);
        joins("a=a+a;a=a+c;", "ac", 0, 1);
        joins("d=a+1;e=d+1;", "a", 0, 1);
        joins("d=a+0001;e=1+d;", "a", 0, 1);
        joins("d=a+b;f=1;g=f-_9;h=g*2;e=d+c;", "abc", 0, 4);
        joins("3{d=a+b;e=d+c;}", "abc", 1, 2);
        joins("d=a+b;e=d+c;f=e+c;", "abc", 0, 1);
        joins("d=a+b;e=d+c;f=e+c;", "abc", 1, 2);
        joins("d=a+b;e=d+a;", "ab", 0, 1);
        joins("d=a+b;b=d+a;", "ab", 0, 1);
    }

    private static void promise12NotJoined() {
        joinsNot("d=a+b;e=d+d;", "abc", 0);
        joinsNot("d=a+b;e=d-c;", "abc", 0);
        joinsNot("d=a-_9;e=d+c;", "abc", 0);
        joinsNot("d=a*b;e=d+c;", "abc", 0);
        joinsNot("d=a+b;e=d*c;", "abc", 0);
        joinsNot("d=a+b;2{e=d+c;}", "abc", 0);
        joinsNot("2{d=a+b;}e=d+c;", "abc", 1);
        joinsNot("d=a+b;2{}e=d+c;", "abc", 0);
        joinsNot("d=a+b;d=5;e=d+c;", "abc", 0);
        joinsNot("d=a+b;f=d;e=d+c;", "abc", 0);
        joinsNot("d=a+b;f=0*d;e=d+c;", "abc", 0);
        joinsNot("d=a+b;f=a+a;e=d+c;", "abc", 0);
        joinsNot("d=a+b;a=5;e=d+c;", "abc", 0);
        joinsNot("d=a+b;b=5;e=d+c;", "abc", 0);
        joinsNot("d=a+b;c=5;e=d+c;", "abc", 0);
        joinsNot("d=a+b;e=d+_1;", "abc", 0);
        // the cut range of d and 0 cannot leave the int range
        joinsNot("d=a+1;e=d+0;", "a", 0);
        joinsNot("d=a+_1;d=a+b;", "ab", 1);
        OverflowGuards x = wideWith("abc", "d=a+b;e=d+c;");
        x.setRange(2, -1, MAX);
        same("12 the other operand may be negative", x.state(0), 4);
        x.setRange(2, 0, MAX);
        x.setRange(0, -1, MAX);
        same("12 the first operand may be negative", x.state(0), 4);
        x.setRange(0, 0, MAX);
        x.setRange(1, -1, MAX);
        same("12 the second operand may be negative", x.state(0), 4);
        x.setRange(1, 0, MAX);
        same("12 none may be negative", x.state(0), 2);
        OverflowGuards later = wideWith("ab", "3{d=a+b;e=d+c;c=c-60;}");
        same("12 negative in a later round", later.state(1), 4);
        later.setRange(2, 200, 300);
        same("12 not negative in any round", later.state(1), 2);
        // the second round ends at instruction 1, where c may be negative already
        OverflowGuards ends = wideWith("a", "2{d=a+b;e=d+c;c=_1;b=9999*9999;b=b*21;a=b;}");
        ends.setRange(2, 0, MAX);
        DUE.yes("12 the analysis ends", !ends.completes());
        same("12 negative where the analysis ends", ends.state(1), 4);
    }

    private static void hoists(String text, String letters, int i, int due) {
        OverflowGuards x = wideWith(letters, text);
        same("12 hoisting in " + text, x.state(i), due);
    }

    private static void promise12Hoisted() {
        hoists("9{d=d+a;}", "a", 1, 3);
        hoists("9{d=a+d;}", "a", 1, 3);
        hoists("9{a=a+1;}", "a", 1, 3);
        hoists("9{a=_1+a;a=a;}", "a", 1, 1);
        hoists("1{a=a+1;}", "a", 1, 3);
        hoists("9{b=a;a=a+1;c=a-1;}", "a", 2, 3);
        hoists("4{d=d+a;2{e=e+a;}}", "a", 1, 3);
        hoists("4{d=d+a;2{e=e+a;}}", "a", 3, 3);
        hoists("4{a=1;2{e=e+d;}}", "d", 3, 3);
        OverflowGuards x = Due.with("9{a=a+_1;}");
        x.setRange(0, MIN, 0);
        same("12 hoisting downwards", x.state(1), 3);
        // the loops' counts are no variables: 3 is not d
        hoists("4{3{d=d+a;}}", "a", 2, 3);
        hoists("4{d=d+a;3{}}", "a", 1, 3);
    }

    private static void promise12NotHoisted() {
        hoists("d=d+a;", "ad", 0, 4);
        hoists("9{d=d-a;d=a+d;}", "a", 2, 4);
        hoists("9{d=_1*d;d=d-a;}", "ad", 2, 4);
        hoists("9{a=a*2;}", "a", 1, 4);
        hoists("9{a=a+a;}", "a", 1, 4);
        hoists("9{d=a+b;}", "ab", 1, 4);
        hoists("9{d=d+a;d=0;}", "a", 1, 4);
        hoists("9{d=d+a;d=1;}", "ad", 1, 4);
        hoists("9{d=d+a;a=1;}", "ad", 1, 4);
        hoists("9{d=d+a;2{a=a;}}", "ad", 1, 4);
        hoists("9{d=d+a;2{d=d;}}", "ad", 1, 4);
        hoists("4{d=d+a;2{e=e+d;}g=g+d;}", "a", 5, 4);
        hoists("9{d=d+a;e=d+b;}", "abd", 1, 2);
        // it covers another one
        hoists("9{d=a+b;e=e+d;}", "abe", 2, 4);
        hoists("9{d=a+b;e=d+c;}", "abc", 2, 4);
    }

    private static void promise13States() {
        OverflowGuards x = wideWith("abc", "d=a+b;e=d+c;3{f=f+a;}g=1+1;a=9999*9999;a=a*a;h=1+1;");
        int[] due = {1, 2, 1, 1, 2};
        for (int state = 0; state < 5; state++) {
            same("13 states " + state, x.states(state), due[state]);
        }
        DUE.refuses("13 state 5", x, ARGUMENT, () -> x.states(5));
        DUE.refuses("13 state -1", x, ARGUMENT, () -> x.states(-1));
        same("13 without instructions", new OverflowGuards().states(0), 0);
    }

    private static void promise14CoveredBy() {
        OverflowGuards x = wideWith("abc", "f=1;d=a+b;e=d+c;2{}");
        int[] due = {NONE, 2, NONE, NONE, NONE};
        for (int i = 0; i < due.length; i++) {
            same("14 coveredBy " + i, x.coveredBy(i), due[i]);
        }
        x.remove(0);
        same("14 after remove", x.coveredBy(0), 1);
        x.setRange(0, 0, 5);
        x.setRange(1, 0, 5);
        same("14 dropped", x.coveredBy(0), NONE);
        DUE.refuses("14 instruction 4", x, INDEX, () -> x.coveredBy(4));
        DUE.refuses("14 instruction -1", x, INDEX, () -> x.coveredBy(-1));
    }

    private static void rangeIs(OverflowGuards x, int i, long low, long high) {
        same("15 low of " + i, x.range(i, false), low);
        same("15 high of " + i, x.range(i, true), high);
    }

    private static void promise15Range() {
        OverflowGuards x = Due.with("c=a;d=a+b;e=a-b;f=a*b;g=_7;3{h=h+a;}");
        x.setRange(0, -3, 5);
        x.setRange(1, -11, 2);
        rangeIs(x, 0, -3, 5);
        rangeIs(x, 1, -14, 7);
        rangeIs(x, 2, -5, 16);
        rangeIs(x, 3, -55, 33);
        rangeIs(x, 4, -7, -7);
        rangeIs(x, 6, -9, 115);
        DUE.refuses("15 loop begin", x, STATE, () -> x.range(5, false));
        DUE.refuses("15 loop end", x, STATE, () -> x.range(7, true));
        DUE.refuses("15 instruction 8", x, INDEX, () -> x.range(8, true));
        DUE.refuses("15 instruction -1", x, INDEX, () -> x.range(-1, true));
        OverflowGuards far = Due.with("b=a*a;c=a-1;d=a+a;");
        far.setRange(0, MIN, MIN);
        rangeIs(far, 0, 1L << 62, 1L << 62);
        rangeIs(far, 1, 0, 0);
        OverflowGuards cut = Due.with("b=a-1;c=b;d=a+a;e=d;");
        cut.setRange(0, MIN, MAX);
        rangeIs(cut, 0, MIN - 1L, MAX - 1L);
        rangeIs(cut, 1, MIN, MAX - 1L);
        rangeIs(cut, 2, 2L * MIN, 2L * MAX);
        rangeIs(cut, 3, MIN, MAX);
    }

    private static void promise16FinalRange() {
        OverflowGuards x = Due.with("a=a-b;c=c+c;");
        x.setRange(2, 7, MAX);
        same("16 low", x.finalRange(0, false), -100);
        same("16 high", x.finalRange(0, true), 100);
        same("16 cut high", x.finalRange(2, true), MAX);
        same("16 cut low", x.finalRange(2, false), 14);
        same("16 input range", x.finalRange(7, true), 100);
        x.setRange(2, MAX, MAX);
        same("16 ended early, low", x.finalRange(2, false), 0);
        same("16 ended early, other", x.finalRange(7, true), 0);
        DUE.refuses("16 variable 8", x, INDEX, () -> x.finalRange(8, true));
        DUE.refuses("16 variable -1", x, INDEX, () -> x.finalRange(-1, true));
    }

    private static void promise17Completes() {
        OverflowGuards x = Due.with("2{a=a+a;}");
        DUE.yes("17 ordinary", x.completes());
        x.setRange(0, 0, MAX);
        DUE.yes("17 cut", x.completes());
        x.setRange(0, 536870912, 536870912);
        DUE.yes("17 ends in the second round", !x.completes());
        x.setRange(0, 536870911, MAX);
        DUE.yes("17 one value is left", x.completes());
        x.setRange(0, 536870912, MAX);
        DUE.yes("17 none is left", !x.completes());
    }

    private static void promise18Failure() {
        OverflowGuards x = wideWith("abc", "d=a+b;e=d+c;f=1;");
        same("18 none", x.failure(false), NONE);
        same("18 none, optimized", x.failure(true), NONE);
        x.setInput(0, MAX);
        x.setInput(2, 1);
        same("18 second", x.failure(false), 1);
        same("18 second, optimized", x.failure(true), 1);
        x.setInput(1, 1);
        same("18 first", x.failure(false), 0);
        same("18 first, optimized: the plain run's", x.failure(true), 0);
        OverflowGuards down = Due.with("b=a-1;");
        down.setRange(0, MIN, 0);
        down.setInput(0, MIN);
        same("18 at MIN", down.failure(false), 0);
        down.setInput(0, MIN + 1);
        same("18 over MIN", down.failure(false), NONE);
    }

    private static void promise19Result() {
        OverflowGuards x = wideWith("abc", "f=7;d=a+b;e=d+c;d=1;");
        x.setInput(0, MAX - 4);
        x.setInput(1, 3);
        same("19 d", x.result(3, false), 1);
        same("19 e", x.result(4, true), MAX - 1);
        x.setInput(2, 2);
        same("19 d at the failure", x.result(3, false), MAX - 1);
        same("19 d at the failure, optimized", x.result(3, true), MAX - 1);
        same("19 e is not changed", x.result(4, true), 0);
        x.setInput(1, 5);
        same("19 d is not changed", x.result(3, false), 0);
        same("19 the plain run's d", x.result(3, true), 0);
        same("19 f", x.result(5, true), 7);
        OverflowGuards loop = Due.with("40{40{a=a+1;}b=b-2;}");
        same("19 loops", loop.result(0, false), 1600);
        same("19 loops, optimized", loop.result(1, true), -80);
        DUE.refuses("19 variable 8", x, INDEX, () -> x.result(8, true));
        DUE.refuses("19 variable -1", x, INDEX, () -> x.result(-1, false));
    }

    private static void promise20Checks() {
        OverflowGuards x = Due.with("3{d=d+a;b=5;2{e=e+a;c=c*1;}}");
        x.setRange(0, 0, MAX);
        same("20 plain", x.checks(false), 15);
        same("20 optimized", x.checks(true), 1 + 3);
        x.setInput(0, 400000000);
        // e: 2 * a fits twice; the third time e is 4 * a, and 5 * a and 6 * a are checked
        same("20 plain, failing", x.checks(false), 5 + 5 + 4);
        same("20 optimized, failing", x.checks(true), 1 + 1 + 1 + 1 + 2);
        same("20 failing at", x.failure(true), 4);
        x.setInput(0, 0);
        x.setRange(0, 0, 10);
        same("20 dropped", x.checks(true), 0);
        OverflowGuards at = Due.with("9{d=d+a;}");
        at.setRange(0, 0, 238609295);
        at.setRange(3, 0, 100);
        at.setInput(0, 238609294);
        same("20 v + n * k in range", at.checks(true), 1);
        at.setInput(3, 1);
        same("20 v + n * k at the end of the range", at.checks(true), 1);
        at.setInput(3, 2);
        same("20 v + n * k out of range", at.checks(true), 1 + 9);
        same("20 nothing to check", new OverflowGuards().checks(false), 0);
        OverflowGuards copies = Due.with("3{a=b;}");
        same("20 copies have no checks", copies.checks(false), 0);
    }

    private static void promise21Executed() {
        OverflowGuards x = Due.with("a=1;3{b=b+1;2{c=a;}}d=d+e;f=2;");
        same("21 all", x.executed(), 1 + 3 * 3 + 2);
        x.setRange(3, 0, MAX);
        x.setInput(3, MAX);
        x.setInput(4, 1);
        same("21 the failed one does not count", x.executed(), 1 + 3 * 3);
        same("21 none", new OverflowGuards().executed(), 0);
    }

    private static void promise22Saving() {
        OverflowGuards x = Due.with("9{d=d+a;}");
        DUE.sameDouble("22 all dropped", x.saving(), 1.0);
        x.setRange(0, 0, 500000000);
        DUE.sameDouble("22 hoisted", x.saving(), 1.0 - 1.0 / 9.0);
        Due.parsed(x, "1{d=d+a;}c=a;");
        x.setRange(3, 0, MAX);
        x.setInput(3, MAX);
        x.setInput(0, 1);
        DUE.sameDouble("22 more checks than before", x.saving(), -1.0);
        Due.parsed(x, "a=b;3{c=1;}");
        DUE.sameDouble("22 no checks", x.saving(), 0.0);
        Due.parsed(x, "d=d+a;");
        DUE.sameDouble("22 nothing saved", x.saving(), 0.0);
    }

    private static void promise23OpenWith() {
        OverflowGuards x = Due.with("d=a+b;e=d+c;3{f=f+a;}g=a-_1;");
        long before = x.digest();
        same("23 none", x.openWith(0, 0, 100), 0);
        same("23 states 2 to 4", x.openWith(0, 0, MAX), 4);
        same("23 one", x.openWith(7, MIN, MAX), 0);
        same("23 the analysis ends", x.openWith(0, MAX, MAX), 3);
        same("23 nothing changes", x.digest(), before);
        x.setRange(1, 1, 100);
        same("23 the analysis ends at once", x.openWith(0, MAX, MAX), 1);
        x.setRange(0, 0, MAX);
        same("23 with a smaller range", x.openWith(0, 5, 5), 0);
        DUE.refuses("23 low > high", x, ARGUMENT, () -> x.openWith(0, 1, 0));
        DUE.refuses("23 variable 8", x, INDEX, () -> x.openWith(8, 0, 1));
        DUE.refuses("23 variable -1", x, INDEX, () -> x.openWith(-1, 0, 1));
        DUE.refuses("23 the first listed", x, INDEX, () -> x.openWith(8, 1, 0));
    }

    private static void promise24SafePower() {
        OverflowGuards x = Due.with("b=a*a;");
        long before = x.digest();
        same("24 square", x.safePower(0), 32768);
        same("24 nothing changes", x.digest(), before);
        same("24 another variable", x.safePower(7), 1 << 30);
        x.setRange(0, -46341, 0);
        same("24 none with the first power", x.safePower(0), 0);
        x.setRange(0, -46340, 0);
        same("24 a negative low end", x.safePower(0), 32768);
        x.setRange(0, 32767, 32767);
        same("24 the first power is the low end plus 1", x.safePower(0), 32768);
        x.setRange(0, 32768, 32768);
        same("24 the first power is too great", x.safePower(0), 0);
        x.setRange(7, (1 << 30) - 1, MAX);
        same("24 the greatest power alone", x.safePower(7), 1 << 30);
        x.setRange(7, 1 << 30, MAX);
        same("24 no power is left", x.safePower(7), 0);
        x.setRange(7, MAX, MAX);
        same("24 low end MAX", x.safePower(7), 0);
        OverflowGuards y = Due.with("b=a*c;");
        y.setRange(2, MAX, MAX);
        same("24 the power 2", y.safePower(0), 2);
        Due.parsed(y, "b=a+1;b=b*c;");
        same("24 the power 1", y.safePower(0), 1);
        y.setRange(0, MIN, MAX);
        same("24 low end MIN", y.safePower(0), 0);
        same("24 low end MIN, not used", Due.with("").safePower(0), 1 << 30);
        DUE.refuses("24 variable 8", x, INDEX, () -> x.safePower(8));
        DUE.refuses("24 variable -1", x, INDEX, () -> x.safePower(-1));
    }

    private static void promise25FailingInput() {
        OverflowGuards x = Due.with("b=a+a;");
        x.setRange(0, MIN, MAX);
        x.setInput(0, (1 << 30) - 200);
        same("25 200 more", x.failingInput(0), 1 << 30);
        x.setInput(0, (1 << 30) - 201);
        long before = x.digest();
        same("25 201 more", x.failingInput(0), MIN);
        same("25 nothing changes", x.digest(), before);
        x.setInput(0, (1 << 30) + 5);
        same("25 the present input", x.failingInput(0), (1 << 30) + 5);
        same("25 of another variable", x.failingInput(1), 0);
        x.setInput(0, MAX - 3);
        same("25 near MAX", x.failingInput(0), MAX - 3);
        x.setInput(0, MIN + 7);
        same("25 near MIN", x.failingInput(0), MIN + 7);
        x.setInput(0, (1 << 30) - 1);
        x.setRange(0, 0, 1 << 30);
        same("25 at the high end", x.failingInput(0), 1 << 30);
        x.setRange(0, 0, (1 << 30) - 1);
        same("25 not behind the high end", x.failingInput(0), MIN);
        OverflowGuards near = Due.with("c=a*1;");
        near.setRange(0, 0, MAX);
        near.setInput(0, MAX - 10);
        same("25 up to MAX without a failure", near.failingInput(0), MIN);
        // (a - 80) squared may be 4900 at most: it fails with 0 to 9 and from 151 on
        OverflowGuards gap = Due.with("b=a-80;b=b*b;b=b+c;");
        gap.setRange(0, 0, MAX);
        gap.setRange(2, MAX - 4900, MAX - 4900);
        same("25 in front of a gap", gap.failingInput(0), 0);
        gap.setInput(0, 9);
        same("25 at the begin of a gap", gap.failingInput(0), 9);
        gap.setInput(0, 10);
        same("25 behind a gap", gap.failingInput(0), 151);
        gap.setRange(0, 0, 150);
        same("25 nothing behind a gap", gap.failingInput(0), MIN);
        DUE.refuses("25 variable 8", x, INDEX, () -> x.failingInput(8));
        DUE.refuses("25 variable -1", x, INDEX, () -> x.failingInput(-1));
    }

    private static void promise26Undo() {
        OverflowGuards x = new OverflowGuards();
        DUE.refuses("26 nothing saved", x, STATE, () -> x.undo());
        for (int n = 1; n <= 6; n++) {
            x.setInput(0, n);
        }
        for (int left = 3; left >= 0; left--) {
            same("26 left", x.undo(), left);
            same("26 input", x.input(0, 2), left + 2);
        }
        DUE.refuses("26 the oldest are dropped", x, STATE, () -> x.undo());
        Due.parsed(x, "a=a+b;");
        x.setRange(0, 0, MAX);
        x.setInput(0, MAX);
        x.setInput(1, 1);
        same("26 fails", x.failure(false), 0);
        x.remove(0);
        same("26 removed", x.failure(false), NONE);
        same("26 undo remove", x.undo(), 3);
        same("26 state is back", x.state(0), 4);
        same("26 run is back", x.failure(true), 0);
        same("26 undo setInput", x.undo(), 2);
        same("26 run before", x.result(0, true), MAX);
        x.undo();
        same("26 undo setRange", x.undo(), 0);
        same("26 range before", x.input(0, 1), 100);
        same("26 input before", x.input(0, 2), 2);
        same("26 program stays", x.instructions(), 1);
        same("26 the text stays", x.clearText(), 6);
        OverflowGuards y = Due.with("b=1;");
        Due.write(y, "c=2;d=3");
        same("26 an error saves nothing", y.parse(), -17);
        same("26 undo parse", y.undo(), 0);
        same("26 no program", y.instructions(), 0);
        same("26 the text is not undone", y.clearText(), 7);
        y.setRange(0, 0, 100);
        same("26 a call that changes nothing", y.undo(), 0);
    }

    private static void promise27Digest() {
        OverflowGuards x = new OverflowGuards();
        same("27 new", x.digest(), digestByFace(x, 0, 0));
        Due.parsed(x, "d=a+b;e=d+c;3{f=f+a;}g=a-_1;");
        same("27 parsed", x.digest(), digestByFace(x, 28, 1));
        wide(x, "abc");
        x.setInput(0, MAX);
        same("27 four saved", x.digest(), digestByFace(x, 28, 4));
        x.setInput(1, 4);
        same("27 failing", x.digest(), digestByFace(x, 28, 4));
        x.undo();
        same("27 three saved", x.digest(), digestByFace(x, 28, 3));
        x.setRange(0, MAX, MAX);
        x.setRange(1, 1, 1);
        x.clearText();
        same("27 the analysis ends", x.digest(), digestByFace(x, 0, 4));
    }

    private static long digestByFace(OverflowGuards x, int length, int saved) {
        long h = 2953;
        h = 31 * h + length;
        h = 31 * h + x.instructions();
        for (int i = 0; i < x.instructions(); i++) {
            for (int what = 0; what < 4; what++) {
                h = 31 * h + x.instruction(i, what);
            }
            h = 31 * h + x.operand(i, false);
            h = 31 * h + x.operand(i, true);
            h = 31 * h + x.state(i);
            h = 31 * h + x.coveredBy(i);
        }
        for (int v = 0; v < 8; v++) {
            for (int what = 0; what < 3; what++) {
                h = 31 * h + x.input(v, what);
            }
            h = 31 * h + x.finalRange(v, false);
            h = 31 * h + x.finalRange(v, true);
        }
        for (int mode = 0; mode < 2; mode++) {
            h = 31 * h + x.failure(mode == 1);
            for (int v = 0; v < 8; v++) {
                h = 31 * h + x.result(v, mode == 1);
            }
            h = 31 * h + x.checks(mode == 1);
        }
        h = 31 * h + x.executed();
        return 31 * h + saved;
    }
}
