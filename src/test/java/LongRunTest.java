import java.util.Random;

/** Runs of 512 calls go through to their end, with dear programs and with wrong arguments, too. */
public final class LongRunTest {
    private static final String[] DEAR = {
        "40{40{" + "b=a;".repeat(26) + "}}",
        "40{40{" + "b=a+c;".repeat(26) + "}}",
        "40{40{" + "a=a+1;c=c+a;d=d+c;".repeat(8) + "}}",
        "40{" + "40{a=a+1;}".repeat(9) + "}",
        "40{40{c=c+1;b=a-a;b=b*9999;b=b*9999;b=b*9999;" + "g=h*g;".repeat(20) + "}}",
    };
    private static final int[] ODD = {
        Integer.MIN_VALUE, -20000, -1, 0, 1, 2, 3, 4, 5, 7, 8, 29, 30, 31, 97, 100, 127, 128, 199, 20000,
        Integer.MAX_VALUE,
    };

    public static void main(String[] args) {
        Due due = new Due();
        for (String text : DEAR) {
            due.yes(text + " goes through", dearCalls(text) > 0);
        }
        for (int seed = 0; seed < 300; seed++) {
            wildCalls(due, seed);
        }
        due.end();
    }

    private static int dearCalls(String text) {
        OverflowGuards x = new OverflowGuards();
        Due.parsed(x, text);
        int calls = text.length() + 2;
        x.setRange(0, 0, Integer.MAX_VALUE);
        for (; calls < 512; calls += 4) {
            x.setInput(0, calls);
            x.digest();
            x.safePower(0);
            if (calls % 40 == 0) {
                x.failingInput(0);
            }
        }
        return calls;
    }

    /** Whatever the arguments are, only the document's exceptions come out. */
    private static void wildCalls(Due due, int seed) {
        Random random = new Random(seed);
        OverflowGuards x = new OverflowGuards();
        String text = "2{a=a+b;3{c=c+a;}}d=a*c;e=d-1;";
        Due.parsed(x, text.substring(0, random.nextInt(text.length() + 1)));
        for (int n = text.length(); n < 512; n++) {
            int which = random.nextInt(Calls.COUNT);
            int a = ODD[random.nextInt(ODD.length)];
            int b = ODD[random.nextInt(ODD.length)];
            int c = ODD[random.nextInt(ODD.length)];
            String thrown = Due.thrownBy(() -> call(x, which, a, b, c));
            due.yes("call " + which + " of run " + seed + " threw " + thrown,
                    allowed(which).contains(thrown));
        }
    }

    private static String allowed(int which) {
        String index = "nothing IndexOutOfBoundsException";
        return switch (which) {
            case 0 -> "nothing IllegalArgumentException IllegalStateException";
            case 3, 4, 5, 9, 22 -> index + " IllegalArgumentException";
            case 6, 14 -> index + " IllegalStateException";
            case 10, 11, 13, 15, 18, 23, 24 -> index;
            case 12 -> "nothing IllegalArgumentException";
            case 25 -> "nothing IllegalStateException";
            default -> "nothing";
        };
    }

    private static long call(OverflowGuards x, int which, int a, int b, int c) {
        boolean keepsTheText = which == Calls.CLEAR_TEXT && a != 0;
        return keepsTheText ? 0 : Calls.make(x, which, a, b, c);
    }
}
