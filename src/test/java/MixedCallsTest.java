import java.util.Random;

/**
 * Runs of 512 calls on one object, all methods mixed: texts are appended byte by byte with other calls
 * in between, undoable calls, undo(), refused calls and reads follow one another, and each answer is
 * held against the Model's. The seeds are fixed; a number of runs and a first seed can be given.
 */
public final class MixedCallsTest {
    private static final int CALLS = 512;
    private static final int TOP = Integer.MAX_VALUE;
    private static final String[] NAMES = {
        "append", "clearText", "parse", "setRange", "setInput", "input", "remove", "instructions", "digest",
        "instruction", "operand", "state", "states", "coveredBy", "range", "finalRange", "completes",
        "failure", "result", "checks", "executed", "saving", "openWith", "safePower", "failingInput", "undo",
    };
    /** How often a method is called when no text is being appended. */
    private static final int[] WEIGHTS = {
        1, 2, 2, 14, 10, 2, 3, 1, 12, 3, 2, 12, 4, 8, 6, 4, 2, 4, 6, 4, 2, 3, 4, 2, 2, 8,
    };
    private static final String[] OUTCOMES = {
        "nothing", "IndexOutOfBoundsException", "IllegalArgumentException", "IllegalStateException",
    };
    /** Which of them the document lists for a method: a sign each. */
    private static final String[] LISTED = {
        "023", "0", "0", "012", "012", "012", "013", "0", "0", "012", "01", "01", "02", "01", "013", "01", "0",
        "0", "01", "0", "0", "0", "012", "01", "01", "03",
    };
    private static final int[] ODD = {
        Integer.MIN_VALUE, -20000, -2, -1, 3, 4, 5, 8, 9, 30, 31, 128, 20000, Integer.MAX_VALUE,
    };
    private static final int[] EDGES = {
        Integer.MIN_VALUE, -2000000000, -46341, -9999, -100, -1, 0, 1, 2, 40, 100, 9999, 46340, 46341,
        53687091, 100000000, 400000000, 1073741823, 1073741824, 2000000000, Integer.MAX_VALUE,
    };
    private static final Due DUE = new Due();
    private static final int[][] SEEN = new int[Calls.COUNT][OUTCOMES.length];
    private static final int[] STATES = new int[5];

    private final Random random;
    private final RandomTexts texts;
    private final OverflowGuards x = new OverflowGuards();
    private final ModelFace face = new ModelFace();
    private final String run;
    private String ahead = "";
    private boolean isWritten = false;

    private MixedCallsTest(long seed) {
        random = new Random(seed);
        texts = new RandomTexts(random);
        run = "run " + seed;
    }

    public static void main(String[] args) {
        int runs = args.length > 0 ? Integer.parseInt(args[0]) : 200;
        int first = args.length > 1 ? Integer.parseInt(args[1]) : 0;
        for (int seed = first; seed < first + runs && DUE.wrong() < 20; seed++) {
            new MixedCallsTest(seed).go();
        }
        if (args.length == 0) {
            allWasSeen();
        }
        DUE.end();
    }

    private static void allWasSeen() {
        for (int which = 0; which < Calls.COUNT; which++) {
            for (int outcome = 0; outcome < OUTCOMES.length; outcome++) {
                boolean isListed = LISTED[which].contains("" + outcome);
                DUE.yes(NAMES[which] + " threw " + OUTCOMES[outcome] + ": " + SEEN[which][outcome] + " times",
                        isListed == SEEN[which][outcome] > 0);
            }
        }
        for (int state = 0; state <= 4; state++) {
            System.out.println("answers of state() that were " + state + ": " + STATES[state]);
            DUE.yes("some check was in state " + state, STATES[state] > 0);
        }
    }

    private void go() {
        for (int n = 1; n <= CALLS; n++) {
            step(n);
        }
    }

    private void step(int n) {
        boolean isAppending = !ahead.isEmpty() && random.nextInt(10) < 7;
        boolean isRead = isWritten && ahead.isEmpty();
        int which = isAppending ? Calls.APPEND : isRead ? Calls.PARSE : picked();
        isWritten = isWritten && !isRead;
        if (isAppending) {
            compare(n, which, ahead.charAt(0), 0, 0);
            ahead = ahead.substring(1);
            isWritten = true;
        } else if (random.nextInt(12) == 0) {
            compare(n, which, odd(), odd(), odd());
        } else {
            compareUsual(n, which);
        }
        if (which == Calls.CLEAR_TEXT || n == 1) {
            ahead = text();
        }
    }

    private int picked() {
        int sum = 0;
        for (int weight : WEIGHTS) {
            sum += weight;
        }
        int left = random.nextInt(sum);
        for (int which = 0; which < Calls.COUNT; which++) {
            left -= WEIGHTS[which];
            if (left < 0) {
                return which;
            }
        }
        return Calls.UNDO;
    }

    /** Arguments that are mostly right for the method. */
    private void compareUsual(int n, int which) {
        int variable = random.nextInt(random.nextInt(3) > 0 ? 4 : 8);
        int instruction = random.nextInt(face.size() + 1);
        int low = random.nextBoolean() ? random.nextInt(3) : edge();
        int high = random.nextInt(9) == 0 ? edge() : Math.max(low, random.nextBoolean() ? TOP : edge());
        switch (which) {
            case 0 -> compare(n, which, random.nextInt(128), 0, 0);
            case 3, 22 -> compare(n, which, variable, low, high);
            case 4 -> compare(n, which, variable, input(variable), 0);
            case 5 -> compare(n, which, variable, random.nextInt(3), 0);
            case 9 -> compare(n, which, instruction, random.nextInt(4), 0);
            case 6, 10, 11, 13, 14 -> compare(n, which, instruction, random.nextInt(2), 0);
            case 12 -> compare(n, which, random.nextInt(5), 0, 0);
            case 17, 19 -> compare(n, which, random.nextInt(2), 0, 0);
            default -> compare(n, which, variable, random.nextInt(2), 0);
        }
    }

    private int odd() {
        return ODD[random.nextInt(ODD.length)];
    }

    private int edge() {
        int edge = EDGES[random.nextInt(EDGES.length)];
        return random.nextInt(4) > 0 ? edge & Integer.MAX_VALUE : edge;
    }

    private int input(int variable) {
        long low = face.model.now.low()[variable];
        long high = face.model.now.high()[variable];
        long part = Math.floorMod(random.nextLong(), high - low + 1) >> random.nextInt(32);
        return random.nextInt(9) == 0 ? edge() : (int) (random.nextBoolean() ? low + part : high - part);
    }

    /** Mostly a short one, since each byte is a call; now and then one that is too long. */
    private String text() {
        String text = texts.program();
        for (int tries = 0; tries < 20 && text.length() > 60; tries++) {
            text = texts.program();
        }
        if (random.nextInt(25) == 0) {
            return text.repeat(200 / Math.max(1, text.length()) + 1);
        }
        return random.nextInt(6) == 0 ? texts.spoiled(text) : text;
    }

    private void compare(int n, int which, int a, int b, int c) {
        String[] thrown = new String[2];
        long[] answers = new long[2];
        thrown[0] = Due.thrownBy(() -> answers[0] = Calls.make(x, which, a, b, c));
        thrown[1] = Due.thrownBy(() -> answers[1] = face.answer(which, a, b, c));
        String call = run + ", call " + n + ", " + NAMES[which] + " with " + a + ", " + b + ", " + c;
        DUE.yes(call + " threw " + thrown[0] + ", due is " + thrown[1], thrown[0].equals(thrown[1]));
        DUE.same(call, answers[0], answers[1]);
        for (int outcome = 0; outcome < OUTCOMES.length; outcome++) {
            SEEN[which][outcome] += thrown[0].equals(OUTCOMES[outcome]) ? 1 : 0;
        }
        if (which == 11 && thrown[0].equals("nothing") && answers[0] >= 0) {
            STATES[(int) answers[0]]++;
        }
    }
}
