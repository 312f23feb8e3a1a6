import java.math.BigInteger;
import java.util.ArrayList;
import java.util.List;
import java.util.Random;

/**
 * Random runs of calls, each on a new object and a new Model. The seeds are fixed, so every run of
 * the test makes the same calls.
 */
public final class ModelTest {
    private static final int[] EDGES = {
        Integer.MIN_VALUE, Integer.MIN_VALUE + 1, -2000000000, -1073741824, -100000, -46341, -9999, -100,
        -40, -5, -1, 0, 1, 2, 5, 31, 40, 100, 9999, 46340, 46341, 53687091, 100000, 100000000, 400000000,
        536870911, 1073741823, 1073741824, 2000000000, 2147483547, Integer.MAX_VALUE - 1,
        Integer.MAX_VALUE,
    };
    private static final Due DUE = new Due();

    private final Random random;
    private final RandomTexts texts;
    private final OverflowGuards x = new OverflowGuards();
    private final Model model = new Model();
    private final String run;
    static final int[] STATES = new int[5];

    private ModelTest(long seed) {
        random = new Random(seed);
        texts = new RandomTexts(random);
        run = "run " + seed + " ";
    }

    public static void main(String[] args) {
        int runs = args.length > 0 ? Integer.parseInt(args[0]) : 400;
        int first = args.length > 1 ? Integer.parseInt(args[1]) : 0;
        for (int seed = first; seed < first + runs && DUE.wrong() < 20; seed++) {
            new ModelTest(seed).go();
        }
        for (int state = 0; state < 5; state++) {
            System.out.println("instructions seen in state " + state + ": " + STATES[state]);
            DUE.yes("some instruction was in state " + state, STATES[state] > 0);
        }
        DUE.end();
    }

    private void go() {
        for (int n = random.nextInt(4); n > 0; n--) {
            setRange(random.nextInt(3));
        }
        for (int n = 0; n < 12; n++) {
            step();
            compareAll();
        }
    }

    private void step() {
        switch (random.nextInt(8)) {
            case 0, 1 -> {
                String text = texts.program();
                writeText(random.nextInt(4) == 0 ? texts.spoiled(text) : text);
                DUE.same(run + "parse " + model.text, x.parse(), model.parse());
            }
            case 2 -> setRange(random.nextInt(8));
            case 3 -> setRange(random.nextInt(3));
            case 4, 5 -> setInput(random.nextInt(random.nextBoolean() ? 3 : 8));
            case 6 -> remove(random.nextInt(12) - 1);
            default -> undo();
        }
    }

    private void writeText(String text) {
        DUE.same(run + "clearText", x.clearText(), model.text.length());
        model.text = new StringBuilder();
        for (int i = 0; i < text.length() && i < 200; i++) {
            model.text.append(text.charAt(i));
            DUE.same(run + "append", x.append(text.charAt(i)), model.text.length());
        }
    }

    private int edge() {
        return EDGES[random.nextInt(EDGES.length)];
    }

    private void setRange(int variable) {
        int a = random.nextInt(3) == 0 ? edge() : Math.abs(edge() / 2);
        int b = random.nextInt(3) == 0 ? edge() : Integer.MAX_VALUE;
        int low = Math.min(a, b);
        int high = Math.max(a, b);
        int due = model.now.value()[variable];
        due = due < low || due > high ? low : due;
        model.save();
        model.now.low()[variable] = low;
        model.now.high()[variable] = high;
        model.now.value()[variable] = due;
        DUE.same(run + "setRange", x.setRange(variable, low, high), due);
    }

    private void setInput(int variable) {
        int low = model.now.low()[variable];
        int high = model.now.high()[variable];
        long span = (long) high - low;
        int value = random.nextInt(3) == 0 ? edge()
                : (int) (low + Math.floorMod(random.nextLong(), span + 1) / (1L << random.nextInt(32)));
        if (value < low || value > high) {
            DUE.refuses(run + "setInput", x, IllegalArgumentException.class,
                    () -> x.setInput(variable, value));
            return;
        }
        DUE.same(run + "setInput", x.setInput(variable, value), model.now.value()[variable]);
        model.save();
        model.now.value()[variable] = value;
    }

    private void remove(int i) {
        if (i < 0 || i >= model.now.program().size()) {
            DUE.refuses(run + "remove", x, IndexOutOfBoundsException.class, () -> x.remove(i));
        } else if (model.now.program().get(i).kind() >= 4) {
            DUE.refuses(run + "remove", x, IllegalStateException.class, () -> x.remove(i));
        } else {
            model.save();
            List<Model.Ins> left = new ArrayList<>(model.now.program());
            left.remove(i);
            model.now = new Model.State(left, model.now.low(), model.now.high(), model.now.value());
            DUE.same(run + "remove", x.remove(i), left.size());
        }
    }

    private void undo() {
        if (model.saved.isEmpty()) {
            DUE.refuses(run + "undo", x, IllegalStateException.class, () -> x.undo());
        } else {
            model.now = model.saved.remove(model.saved.size() - 1);
            DUE.same(run + "undo", x.undo(), model.saved.size());
        }
    }

    private void compareAll() {
        DUE.same(run + "digest, " + model.text, x.digest(), model.digest());
        Model.Looked looked = model.look();
        int size = model.now.program().size();
        DUE.same(run + "instructions", x.instructions(), size);
        int[] states = new int[5];
        for (int i = 0; i < size; i++) {
            int state = model.state(looked, i);
            if (state >= 0) {
                states[state]++;
                STATES[state]++;
            }
            DUE.same(run + "state " + i, x.state(i), state);
            DUE.same(run + "coveredBy " + i, x.coveredBy(i), model.cover(looked, i));
            if (model.now.program().get(i).kind() < 4) {
                BigInteger[] all = looked.all[i];
                DUE.same(run + "range low " + i, x.range(i, false), all == null ? 0 : all[0].longValueExact());
                DUE.same(run + "range high " + i, x.range(i, true), all == null ? 0 : all[1].longValueExact());
            }
        }
        for (int state = 0; state < 5; state++) {
            DUE.same(run + "states " + state, x.states(state), states[state]);
        }
        DUE.yes(run + "completes", x.completes() == looked.completes);
        compareRuns();
        int variable = random.nextInt(random.nextBoolean() ? 3 : 8);
        int low = edge();
        int high = Math.max(low, edge());
        DUE.same(run + "openWith", x.openWith(variable, low, high), model.openWith(variable, low, high));
        if (random.nextInt(4) == 0) {
            DUE.same(run + "safePower", x.safePower(variable), model.safePower(variable));
            DUE.same(run + "failingInput", x.failingInput(variable), model.failingInput(variable));
            DUE.same(run + "digest after the questions", x.digest(), model.digest());
        }
    }

    private void compareRuns() {
        Model.Ran plain = model.run(false);
        Model.Ran optimized = model.run(true);
        DUE.same(run + "failure", x.failure(false), plain.failure);
        DUE.same(run + "failure optimized", x.failure(true), optimized.failure);
        DUE.same(run + "both runs fail at the same place", plain.failure, optimized.failure);
        for (int v = 0; v < 8; v++) {
            DUE.same(run + "result", x.result(v, false), plain.value[v].intValue());
            DUE.same(run + "result optimized", x.result(v, true), optimized.value[v].intValue());
            DUE.same(run + "both results", x.result(v, true), x.result(v, false));
        }
        DUE.same(run + "checks", x.checks(false), plain.checks);
        DUE.same(run + "checks optimized", x.checks(true), optimized.checks);
        DUE.same(run + "executed", x.executed(), plain.executed);
        DUE.sameDouble(run + "saving", x.saving(),
                plain.checks == 0 ? 0.0 : 1.0 - (double) optimized.checks / (double) plain.checks);
    }
}
