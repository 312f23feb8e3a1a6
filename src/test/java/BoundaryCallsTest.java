import java.util.ArrayList;
import java.util.List;

/** Boundary cases of the document's Undo and Exceptions, and runs of 512 calls of each method. */
public final class BoundaryCallsTest {
    private static final int MIN = Integer.MIN_VALUE;
    private static final int MAX = Integer.MAX_VALUE;
    private static final int CALLS = 512;
    private static final String PROGRAM = "d=a+b;e=d+c;3{f=f+a;}";
    private static final Due DUE = new Due();

    private interface Step {
        void take(OverflowGuards x);
    }

    public static void main(String[] args) {
        eachSuccessfulCall();
        evenIfNothingChanges();
        theOthersAreNotUndoable();
        atMostFour();
        oldestFirst();
        everythingButTheText();
        throwingChangesNothing();
        listedFirst();
        manyCalls();
        manyDearCalls();
        DUE.end();
    }

    private static void same(String what, long got, long want) {
        DUE.same(what, got, want);
    }

    private static void same(String what, String got, String want) {
        DUE.yes(what + " answered " + got + ", due is " + want, got.equals(want));
    }

    /** PROGRAM with another text behind it; one state is saved. */
    private static OverflowGuards readyWith(String text) {
        OverflowGuards x = Due.with(PROGRAM);
        Due.write(x, text);
        return x;
    }

    // ---- Undo

    private static void undoes(String what, OverflowGuards x, Step step) {
        long before = x.digest();
        int instructions = x.instructions();
        step.take(x);
        DUE.yes(what + " changes the digest: a state more is saved", x.digest() != before);
        same(what + " undone, saved states", x.undo(), 1);
        same(what + " undone", x.digest(), before);
        same(what + " undone, instructions", x.instructions(), instructions);
    }

    private static void eachSuccessfulCall() {
        DUE.sentence("Undo", "Each successful call of a method whose description says \"undoable\" "
                + "saves the state from before the call");
        undoes("parse", readyWith(""), OverflowGuards::parse);
        undoes("setRange", readyWith("a=1;"), x -> x.setRange(0, 5, MAX));
        undoes("setInput", readyWith("a=1;"), x -> x.setInput(7, 100));
        undoes("remove", readyWith("a=1;"), x -> x.remove(0));
        undoes("remove in a loop", readyWith("a=1;"), x -> x.remove(3));
    }

    private static void evenIfNothingChanges() {
        DUE.sentence("Undo", "even if the call changes nothing");
        OverflowGuards x = readyWith(PROGRAM);
        undoes("parse of the same text", x, OverflowGuards::parse);
        undoes("setRange to the same", x, y -> y.setRange(0, 0, 100));
        undoes("setInput to the same", x, y -> y.setInput(0, 0));
        OverflowGuards empty = new OverflowGuards();
        empty.parse();
        same("an empty text for no program", empty.undo(), 0);
    }

    private static void theOthersAreNotUndoable() {
        DUE.sentence("Undo", "of a method whose description says \"undoable\"");
        // the parse is dropped from the saved states, so that a program is left and none is saved
        OverflowGuards x = readyWith("a=1;?");
        for (int n = 0; n < 4; n++) {
            x.setInput(0, n);
        }
        for (int n = 0; n < 4; n++) {
            x.undo();
        }
        same("the program is left", x.instructions(), 5);
        same("an error of the text", x.parse(), -14);
        for (int which = 0; which < Calls.COUNT; which++) {
            if (!Calls.isUndoable(which)) {
                int call = which;
                Due.thrownBy(() -> Calls.make(x, call, 0, 0, 0));
                DUE.refuses("after call " + which, x, IllegalStateException.class, () -> x.undo());
            }
        }
    }

    private static void atMostFour() {
        DUE.sentence("Undo", "at most 4 states are saved");
        for (int calls = 0; calls <= 7; calls++) {
            OverflowGuards x = new OverflowGuards();
            for (int n = 0; n < calls; n++) {
                x.setRange(n, n, n + 1);
            }
            for (int left = Math.min(calls, 4) - 1; left >= 0; left--) {
                same(calls + " calls, left", x.undo(), left);
            }
            DUE.refuses(calls + " calls", x, IllegalStateException.class, () -> x.undo());
            for (int v = 0; v < 8; v++) {
                boolean stays = v < calls - 4;
                same(calls + " calls, high end of " + v, x.input(v, 1), stays ? v + 1 : 100);
            }
        }
    }

    private static void oldestFirst() {
        DUE.sentence("Undo", "and the oldest is dropped first");
        OverflowGuards x = new OverflowGuards();
        Due.parsed(x, "a=1;");
        Due.parsed(x, "a=1;b=2;");
        x.setInput(7, 9);
        x.setRange(6, 3, 4);
        x.remove(0);
        same("the newest: remove", x.undo(), 3);
        same("two instructions", x.instructions(), 2);
        same("range as set", x.input(6, 0), 3);
        same("then setRange", x.undo(), 2);
        same("range as before", x.input(6, 1), 100);
        same("input as set", x.input(7, 2), 9);
        same("then setInput", x.undo(), 1);
        same("input as before", x.input(7, 2), 0);
        same("then the second parse", x.undo(), 0);
        same("the first parse is not undone", x.instructions(), 1);
        DUE.refuses("it was dropped", x, IllegalStateException.class, () -> x.undo());
        // saving again behind an undo: the states that were undone do not come back
        x.setInput(0, 1);
        x.setInput(0, 2);
        x.undo();
        x.setInput(0, 3);
        same("the newer one", x.undo(), 1);
        same("back to 1", x.input(0, 2), 1);
        same("the older one", x.undo(), 0);
        same("back to 0", x.input(0, 2), 0);
    }

    private static void everythingButTheText() {
        DUE.sentence("Undo", "The saved state contains everything except the program text.");
        OverflowGuards x = new OverflowGuards();
        x.setRange(0, MIN, MAX);
        x.setInput(0, MAX);
        Due.parsed(x, "b=a;");
        x.clearText();
        Due.write(x, "c=3;d");
        same("undo parse", x.undo(), 2);
        same("the text is as it was last", x.clearText(), 5);
        Due.write(x, "e=5;");
        same("undo setInput", x.undo(), 1);
        same("input", x.input(0, 2), 0);
        same("low end", x.input(0, 0), MIN);
        same("undo setRange", x.undo(), 0);
        same("low end before", x.input(0, 0), 0);
        same("the text can be parsed", x.parse(), 1);
        same("it is the last one", x.result(4, false), 5);
    }

    // ---- Exceptions

    /** Calls that throw on the object full(). */
    private static List<Step> throwing() {
        List<Step> all = new ArrayList<>();
        for (int value : new int[] {-1, 128, 5}) {
            all.add(x -> x.append(value));
        }
        for (int v : new int[] {-1, 8, MIN, MAX}) {
            all.add(x -> x.setRange(v, 0, 1));
            all.add(x -> x.setInput(v, 0));
            all.add(x -> x.input(v, 0));
            all.add(x -> x.finalRange(v, true));
            all.add(x -> x.result(v, true));
            all.add(x -> x.openWith(v, 0, 1));
            all.add(x -> x.safePower(v));
            all.add(x -> x.failingInput(v));
        }
        for (int i : new int[] {-1, 5, MIN, MAX}) {
            all.add(x -> x.remove(i));
            all.add(x -> x.instruction(i, 0));
            all.add(x -> x.operand(i, true));
            all.add(x -> x.state(i));
            all.add(x -> x.coveredBy(i));
            all.add(x -> x.range(i, true));
        }
        for (int edge : new int[] {2, 4}) {
            all.add(x -> x.remove(edge));
            all.add(x -> x.range(edge, false));
        }
        all.add(x -> x.setRange(0, 1, 0));
        all.add(x -> x.setInput(0, -1));
        all.add(x -> x.setInput(0, 2000000001));
        all.add(x -> x.input(0, 3));
        all.add(x -> x.instruction(0, 4));
        all.add(x -> x.states(5));
        all.add(x -> x.states(-1));
        all.add(x -> x.openWith(0, 1, 0));
        return all;
    }

    /** A text of 200 bytes, another program, an input range to 2000000000, and three saved states. */
    private static OverflowGuards full() {
        OverflowGuards x = new OverflowGuards();
        Due.write(x, PROGRAM);
        x.parse();
        Due.write(x, "a=_9999+_9999;".repeat(14) + "h=1;");
        x.setRange(0, 0, 2000000000);
        x.setInput(0, 1999999999);
        x.setInput(1, 7);
        x.undo();
        return x;
    }

    /** All that can be asked, and all that can come to light by undo() and parse(). */
    private static void sameInAll(String what, OverflowGuards x, OverflowGuards twin) {
        same(what + ": text", x.parse(), twin.parse());
        same(what + ": digest of the text's program", x.digest(), twin.digest());
        for (int left = 3; left >= 0; left--) {
            same(what + ": undo", x.undo(), left);
            twin.undo();
            same(what + ": digest with " + left, x.digest(), twin.digest());
        }
        same(what + ": undone to the begin", x.instructions(), 0);
        same(what + ": length of the text", x.clearText(), twin.clearText());
    }

    private static void throwingChangesNothing() {
        DUE.sentence("Exceptions", "A call that throws an exception changes nothing.");
        int n = 0;
        for (Step step : throwing()) {
            OverflowGuards x = full();
            DUE.yes("call " + n + " throws", !Due.thrownBy(() -> call(x, step)).equals("nothing"));
            sameInAll("call " + n, x, full());
            n++;
        }
        OverflowGuards all = full();
        for (Step step : throwing()) {
            Due.thrownBy(() -> call(all, step));
        }
        sameInAll("all of them", all, full());
        OverflowGuards none = Due.with("a=1;");
        none.undo();
        Due.thrownBy(none::undo);
        same("undo without a saved state", none.instructions(), 0);
        same("the text stays", none.parse(), 1);
        same("one is saved", none.undo(), 0);
    }

    private static void listedFirst() {
        DUE.sentence("Exceptions", "If several exceptions apply, the one that is listed first is thrown.");
        OverflowGuards x = full();
        for (int value : new int[] {-1, 128, MIN, MAX}) {
            DUE.refuses("append " + value, x, IllegalArgumentException.class, () -> x.append(value));
        }
        for (int no : new int[] {-1, 8, MIN, MAX}) {
            Class<IndexOutOfBoundsException> index = IndexOutOfBoundsException.class;
            DUE.refuses("setRange " + no, x, index, () -> x.setRange(no, 1, 0));
            DUE.refuses("setInput " + no, x, index, () -> x.setInput(no, MIN));
            DUE.refuses("input " + no, x, index, () -> x.input(no, 3));
            DUE.refuses("instruction " + no, x, index, () -> x.instruction(no, 4));
            DUE.refuses("openWith " + no, x, index, () -> x.openWith(no, 1, 0));
        }
    }

    private static long call(OverflowGuards x, Step step) {
        step.take(x);
        return 0;
    }

    // ---- 512 calls

    private static void manyCalls() {
        DUE.sentence("What it is", "An object is used for at most 512 calls after it has been made");
        OverflowGuards text = new OverflowGuards();
        for (int n = 1; n <= CALLS; n++) {
            same("append, time " + n, answer(text, Calls.APPEND, 0), n <= 200 ? "" + n : "IllegalStateException");
        }
        for (int which = 1; which < Calls.COUNT; which++) {
            OverflowGuards x = new OverflowGuards();
            String first = answer(x, which, 0);
            for (int n = 2; n <= CALLS; n++) {
                same("call " + which + ", time " + n, answer(x, which, 0), first);
            }
        }
        OverflowGuards x = new OverflowGuards();
        for (int n = 1; n <= CALLS - 2; n++) {
            x.setInput(0, n % 100);
        }
        same("510 are saved, four are kept", x.undo(), 3);
        same("the 512th call", x.input(0, 2), (CALLS - 3) % 100);
    }

    private static String answer(OverflowGuards x, int which, int c) {
        long[] answer = new long[1];
        String thrown = Due.thrownBy(() -> answer[0] = Calls.make(x, which, 0, 0, c));
        return thrown.equals("nothing") ? "" + answer[0] : thrown;
    }

    /** The dearest program: each method is called up to the 511th call, behind a change each time. */
    private static void manyDearCalls() {
        DUE.sentence("What it is", "An object is used for at most 512 calls after it has been made");
        // by ranges b may be anything, with one input it is 0: failingInput() must run each input
        String dear = "40{40{b=a-a;b=b*9999;b=b*9999;b=b*9999;c=c+1;" + "g=h;".repeat(21) + "}}";
        for (int which = Calls.PARSE; which < Calls.UNDO; which++) {
            OverflowGuards x = new OverflowGuards();
            same("the dearest program", Due.parsed(x, dear), 30);
            x.setRange(0, 0, MAX);
            int calls = dear.length() + 3;
            String last = "";
            for (; calls + 2 < CALLS; calls += 2) {
                x.setInput(0, calls);
                last = answer(x, which, MAX);
            }
            DUE.yes("call " + which + " goes through: " + last, !last.isEmpty());
            same("executed behind call " + which, x.executed(), 1600 * 26);
        }
    }
}
