import java.util.Random;

/** Runs of 512 calls go through to their end, with dear programs and with wrong arguments, too. */
public final class LongRunTest {
    private static final String[] DEAR = {
        "40{40{" + "b=a;".repeat(26) + "}}",
        "40{40{" + "b=a+c;".repeat(26) + "}}",
        "40{40{" + "a=a+1;c=c+a;d=d+c;".repeat(8) + "}}",
        "40{" + "40{a=a+1;}".repeat(9) + "}",
        "40{40{c=c+1;b=a-a;b=b*9999;b=b*9999;b=b*9999;" + "g=h*g;".repeat(20) + "}}",
    };
    private static final int[] ODD = {
        Integer.MIN_VALUE, -20000, -1, 0, 1, 2, 3, 4, 5, 7, 8, 29, 30, 31, 97, 100, 127, 128, 199, 20000,
        Integer.MAX_VALUE,
    };

    public static void main(String[] args) {
        Due due = new Due();
        for (String text : DEAR) {
            due.yes(text + " goes through", dearCalls(text) > 0);
        }
        for (int seed = 0; seed < 300; seed++) {
            wildCalls(due, seed);
        }
        due.end();
    }

    private static int dearCalls(String text) {
        OverflowGuards x = new OverflowGuards();
        Due.parsed(x, text);
        int calls = text.length() + 2;
        x.setRange(0, 0, Integer.MAX_VALUE);
        for (; calls < 512; calls += 4) {
            x.setInput(0, calls);
            x.digest();
            x.safePower(0);
            if (calls % 40 == 0) {
                x.failingInput(0);
            }
        }
        return calls;
    }

    /** Whatever the arguments are, only the document's exceptions come out. */
    private static void wildCalls(Due due, int seed) {
        Random random = new Random(seed);
        OverflowGuards x = new OverflowGuards();
        String text = "2{a=a+b;3{c=c+a;}}d=a*c;e=d-1;";
        Due.parsed(x, text.substring(0, random.nextInt(text.length() + 1)));
        for (int n = text.length(); n < 512; n++) {
            int which = random.nextInt(26);
            int a = ODD[random.nextInt(ODD.length)];
            int b = ODD[random.nextInt(ODD.length)];
            int c = ODD[random.nextInt(ODD.length)];
            String thrown = Due.thrownBy(() -> call(x, which, a, b, c));
            due.yes("call " + which + " of run " + seed + " threw " + thrown,
                    allowed(which).contains(thrown));
        }
    }

    private static String allowed(int which) {
        String index = "nothing IndexOutOfBoundsException";
        return switch (which) {
            case 0 -> "nothing IllegalArgumentException IllegalStateException";
            case 3, 4, 5, 9, 22 -> index + " IllegalArgumentException";
            case 6, 14 -> index + " IllegalStateException";
            case 10, 11, 13, 15, 18, 23, 24 -> index;
            case 12 -> "nothing IllegalArgumentException";
            case 25 -> "nothing IllegalStateException";
            default -> "nothing";
        };
    }

    private static long call(OverflowGuards x, int which, int a, int b, int c) {
        return switch (which) {
            case 0 -> x.append(a);
            case 1 -> a == 0 ? x.clearText() : 0;
            case 2 -> x.parse();
            case 3 -> x.setRange(a, b, c);
            case 4 -> x.setInput(a, b);
            case 5 -> x.input(a, b);
            case 6 -> x.remove(a);
            case 7 -> x.instructions();
            case 8 -> x.digest();
            case 9 -> x.instruction(a, b);
            case 10 -> x.operand(a, b > 0);
            case 11 -> x.state(a);
            case 12 -> x.states(a);
            case 13 -> x.coveredBy(a);
            case 14 -> x.range(a, b > 0);
            case 15 -> x.finalRange(a, b > 0);
            case 16 -> x.completes() ? 1 : 0;
            case 17 -> x.failure(a > 0);
            case 18 -> x.result(a, b > 0);
            case 19 -> x.checks(a > 0);
            case 20 -> x.executed();
            case 21 -> (long) x.saving();
            case 22 -> x.openWith(a, b, c);
            case 23 -> x.safePower(a);
            case 24 -> x.failingInput(a);
            default -> x.undo();
        };
    }
}
