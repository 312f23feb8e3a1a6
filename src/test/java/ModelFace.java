import java.util.ArrayList;
import java.util.List;

/** The face of the document, answered by the Model; the calls have the numbers of Calls. */
final class ModelFace {
    final Model model = new Model();

    long answer(int which, int a, int b, int c) {
        return which <= 7 ? program(which, a, b, c) : which <= 16 ? looked(which, a, b) : ran(which, a, b, c);
    }

    private long program(int which, int a, int b, int c) {
        return switch (which) {
            case 0 -> append(a);
            case 1 -> clearText();
            case 2 -> model.parse();
            case 3 -> setRange(a, b, c);
            case 4 -> setInput(a, b);
            case 5 -> input(a, b);
            case 6 -> remove(a);
            default -> size();
        };
    }

    private long looked(int which, int a, int b) {
        return switch (which) {
            case 8 -> model.digest();
            case 9 -> instruction(a, b);
            case 10 -> operand(a, b > 0);
            case 11 -> model.state(model.look(), instruction(a));
            case 12 -> states(a);
            case 13 -> model.cover(model.look(), instruction(a));
            case 14 -> range(a, b > 0 ? 1 : 0);
            case 15 -> finalRange(variable(a), b > 0);
            default -> model.look().completes ? 1 : 0;
        };
    }

    private long ran(int which, int a, int b, int c) {
        return switch (which) {
            case 17 -> model.run(a > 0).failure;
            case 18 -> model.run(b > 0).value[variable(a)].intValue();
            case 19 -> model.run(a > 0).checks;
            case 20 -> model.run(false).executed;
            case 21 -> Double.doubleToLongBits(saving());
            case 22 -> openWith(a, b, c);
            case 23 -> model.safePower(variable(a));
            case 24 -> model.failingInput(variable(a));
            default -> undo();
        };
    }

    int size() {
        return model.now.program().size();
    }

    private static int variable(int v) {
        if (v < 0 || v > 7) {
            throw new IndexOutOfBoundsException();
        }
        return v;
    }

    private int instruction(int i) {
        if (i < 0 || i >= size()) {
            throw new IndexOutOfBoundsException();
        }
        return i;
    }

    private static void argument(boolean isRight) {
        if (!isRight) {
            throw new IllegalArgumentException();
        }
    }

    private static void state(boolean isRight) {
        if (!isRight) {
            throw new IllegalStateException();
        }
    }

    private int append(int value) {
        argument(value >= 0 && value <= 127);
        state(model.text.length() < 200);
        model.text.append((char) value);
        return model.text.length();
    }

    private int clearText() {
        int before = model.text.length();
        model.text = new StringBuilder();
        return before;
    }

    private int setRange(int variable, int low, int high) {
        variable(variable);
        argument(low <= high);
        model.save();
        int value = model.now.value()[variable];
        model.now.low()[variable] = low;
        model.now.high()[variable] = high;
        model.now.value()[variable] = value < low || value > high ? low : value;
        return model.now.value()[variable];
    }

    private int setInput(int variable, int value) {
        variable(variable);
        argument(value >= model.now.low()[variable] && value <= model.now.high()[variable]);
        model.save();
        int before = model.now.value()[variable];
        model.now.value()[variable] = value;
        return before;
    }

    private int input(int variable, int what) {
        variable(variable);
        argument(what >= 0 && what <= 2);
        int[][] rows = {model.now.low(), model.now.high(), model.now.value()};
        return rows[what][variable];
    }

    private int remove(int i) {
        state(model.now.program().get(instruction(i)).kind() < 4);
        model.save();
        List<Model.Ins> left = new ArrayList<>(model.now.program());
        left.remove(i);
        model.now = new Model.State(left, model.now.low(), model.now.high(), model.now.value());
        return left.size();
    }

    private int instruction(int i, int what) {
        Model.Ins ins = model.now.program().get(instruction(i));
        argument(what >= 0 && what <= 3);
        return switch (what) {
            case 0 -> ins.kind();
            case 1 -> ins.v();
            case 2 -> model.loopsRound(i).size();
            default -> model.partner(i);
        };
    }

    private int operand(int i, boolean second) {
        Model.Ins ins = model.now.program().get(instruction(i));
        return model.operand(second ? ins.q() : ins.p());
    }

    private int states(int state) {
        argument(state >= 0 && state <= 4);
        Model.Looked looked = model.look();
        int found = 0;
        for (int i = 0; i < size(); i++) {
            found += model.state(looked, i) == state ? 1 : 0;
        }
        return found;
    }

    private long range(int i, int end) {
        state(model.now.program().get(instruction(i)).kind() < 4);
        Model.Looked looked = model.look();
        return looked.all[i] == null ? 0 : looked.all[i][end].longValueExact();
    }

    private long finalRange(int variable, boolean high) {
        Model.Looked looked = model.look();
        return looked.completes ? (high ? looked.high : looked.low)[variable].intValueExact() : 0;
    }

    private double saving() {
        int plain = model.run(false).checks;
        return plain == 0 ? 0.0 : 1.0 - (double) model.run(true).checks / (double) plain;
    }

    private int openWith(int variable, int low, int high) {
        variable(variable);
        argument(low <= high);
        return model.openWith(variable, low, high);
    }

    private int undo() {
        state(!model.saved.isEmpty());
        model.now = model.saved.remove(model.saved.size() - 1);
        return model.saved.size();
    }
}
