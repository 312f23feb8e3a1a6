/** The five examples of the document's 'Terms', each on a new object. */
public final class ExamplesTest {
    private static final Due DUE = new Due();

    public static void main(String[] args) {
        sumWhoseCheckCanFail();
        checkInFrontOfALoop();
        whatIf();
        errorOfAText();
        exceptions();
        DUE.end();
    }

    private static void appendAll(OverflowGuards x, int... bytes) {
        for (int i = 0; i < bytes.length; i++) {
            DUE.same("append(" + bytes[i] + ")", x.append(bytes[i]), i + 1);
        }
    }

    private static void sumWhoseCheckCanFail() {
        OverflowGuards x = new OverflowGuards();
        appendAll(x, 99, 61, 97, 43, 98, 59);
        DUE.same("1 parse", x.parse(), 1);
        DUE.same("1 state", x.state(0), 1);
        DUE.same("1 setRange", x.setRange(0, 0, 2147483647), 0);
        DUE.same("1 state", x.state(0), 4);
        DUE.same("1 setInput a", x.setInput(0, 2147483600), 0);
        DUE.same("1 setInput b", x.setInput(1, 100), 0);
        DUE.same("1 failure", x.failure(true), 0);
        DUE.same("1 checks", x.checks(true), 1);
        DUE.same("1 range", x.range(0, true), 2147483747L);
    }

    private static void checkInFrontOfALoop() {
        OverflowGuards x = new OverflowGuards();
        appendAll(x, 57, 123, 100, 61, 100, 43, 97, 59, 125);
        DUE.same("2 parse", x.parse(), 3);
        DUE.same("2 setRange", x.setRange(0, 0, 500000000), 0);
        DUE.same("2 state", x.state(1), 3);
        DUE.same("2 checks plain", x.checks(false), 9);
        DUE.same("2 checks optimized", x.checks(true), 1);
        DUE.same("2 setInput", x.setInput(0, 400000000), 0);
    }

    private static void whatIf() {
        OverflowGuards x = new OverflowGuards();
        DUE.same("3 setRange", x.setRange(0, 0, 2000000000), 0);
        appendAll(x, 99, 61, 97, 43, 97, 59);
        DUE.same("3 parse", x.parse(), 1);
        DUE.same("3 safePower", x.safePower(0), 1073741824);
        DUE.same("3 setInput", x.setInput(0, 1073741800), 0);
        DUE.same("3 failingInput", x.failingInput(0), 1073741824);
    }

    private static void errorOfAText() {
        OverflowGuards x = new OverflowGuards();
        appendAll(x, 97, 61, 49, 59, 59);
        DUE.same("4 parse", x.parse(), -14);
        DUE.same("4 instructions", x.instructions(), 0);
    }

    private static void exceptions() {
        OverflowGuards x = new OverflowGuards();
        DUE.refuses("5 setRange", x, IllegalArgumentException.class, () -> x.setRange(0, 1, 0));
        DUE.refuses("5 setInput", x, IllegalArgumentException.class, () -> x.setInput(0, 101));
        DUE.refuses("5 remove", x, IndexOutOfBoundsException.class, () -> x.remove(0));
        DUE.refuses("5 state", x, IndexOutOfBoundsException.class, () -> x.state(0));
        DUE.yes("5 completes", x.completes());
        DUE.refuses("5 undo", x, IllegalStateException.class, () -> x.undo());
    }
}
