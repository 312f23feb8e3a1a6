/**
 * An optimizer for overflow checks in small programs. The document that it keeps to numbers its
 * promises 1 to 27; each public method below is one of them.
 *
 * All rows are made in the constructors and used again, so that a call makes no object.
 */
public final class OverflowGuards {
    public static final int NONE = -1;

    private static final int VARIABLES = 8;
    private static final int MAX_INSTRUCTIONS = 30;
    private static final int MAX_TEXT = 200;
    private static final int MAX_BYTE = 127;
    private static final int MAX_DEPTH = 2;
    private static final int MAX_LOOP_COUNT = 40;
    private static final int COUNT_DIGITS = 2;
    private static final int CONSTANT_DIGITS = 4;
    private static final int MAX_SAVED = 4;
    private static final int FIRST_HIGH_END = 100;
    private static final int CONSTANT_BASE = 20000;
    private static final int ERROR_BASE = -10;
    private static final int LAST_POWER = 30;
    private static final int INPUTS_AHEAD = 200;
    private static final int TRIAL_WIDTH = 255;
    private static final long DIGEST_START = 2953;

    /** Two loops of 40 round 26 instructions take some 43,000 steps, the most that a run can need. */
    private static final int STEP_BOUND = 1000000;

    private static final int END_OF_TEXT = -1;

    private static final int COPY = 0;
    private static final int SUM = 1;
    private static final int DIFFERENCE = 2;
    private static final int PRODUCT = 3;
    private static final int LOOP_BEGIN = 4;
    private static final int LOOP_END = 5;

    private static final int DEAD = 0;
    private static final int DROPPED = 1;
    private static final int JOINED = 2;
    private static final int HOISTED = 3;
    private static final int KEPT = 4;

    private final Text text = new Text();
    private final Program parsed = new Program();
    private final Parser parser = new Parser(text, parsed);
    private final Situation present = new Situation();
    private final History history = new History();

    private final Analysis analysis = new Analysis();
    private final Plan plan = new Plan();
    private final Run plainRun = new Run();
    private final Run optimizedRun = new Run();
    private boolean analysisIsFresh = false;
    private boolean runsAreFresh = false;

    private final Inputs trialInputs = new Inputs();
    private final Analysis trialAnalysis = new Analysis();
    private final Run trialRun = new Run();

    public OverflowGuards() {
    }

    // ---- program and inputs

    public int append(int value) throws IllegalArgumentException, IllegalStateException {
        if (value < 0 || value > MAX_BYTE) {
            throw new IllegalArgumentException("the byte is not 0 to 127");
        }
        if (text.length >= MAX_TEXT) {
            throw new IllegalStateException("the text has 200 bytes");
        }
        text.add(value);
        return text.length;
    }

    public int clearText() {
        int before = text.length;
        text.length = 0;
        return before;
    }

    public int parse() {
        int error = parser.read();
        if (error != NONE) {
            return ERROR_BASE - error;
        }
        saveForUndo();
        present.program.copyFrom(parsed);
        return parsed.count;
    }

    public int setRange(int variable, int low, int high)
            throws IndexOutOfBoundsException, IllegalArgumentException {
        requireVariable(variable);
        requireOrder(low, high);
        saveForUndo();
        return present.inputs.limit(variable, low, high);
    }

    public int setInput(int variable, int value)
            throws IndexOutOfBoundsException, IllegalArgumentException {
        requireVariable(variable);
        Inputs inputs = present.inputs;
        if (value < inputs.low[variable] || value > inputs.high[variable]) {
            throw new IllegalArgumentException("the input is not in its input range");
        }
        saveForUndo();
        int before = inputs.value[variable];
        inputs.value[variable] = value;
        return before;
    }

    public int input(int variable, int what)
            throws IndexOutOfBoundsException, IllegalArgumentException {
        requireVariable(variable);
        switch (what) {
            case 0:
                return present.inputs.low[variable];
            case 1:
                return present.inputs.high[variable];
            case 2:
                return present.inputs.value[variable];
            default:
                throw new IllegalArgumentException("what is not 0 to 2");
        }
    }

    public int remove(int instruction) throws IndexOutOfBoundsException, IllegalStateException {
        requireInstruction(instruction);
        requireNoLoopEdge(instruction);
        saveForUndo();
        present.program.takeOut(instruction);
        return present.program.count;
    }

    public int instructions() {
        return present.program.count;
    }

    public int instruction(int instruction, int what)
            throws IndexOutOfBoundsException, IllegalArgumentException {
        requireInstruction(instruction);
        switch (what) {
            case 0:
                return present.program.kind[instruction];
            case 1:
                return present.program.target[instruction];
            case 2:
                return present.program.depth[instruction];
            case 3:
                return present.program.partner[instruction];
            default:
                throw new IllegalArgumentException("what is not 0 to 3");
        }
    }

    public int operand(int instruction, boolean second) throws IndexOutOfBoundsException {
        requireInstruction(instruction);
        Program program = present.program;
        return second ? program.second[instruction] : program.first[instruction];
    }

    // ---- analysis

    public int state(int instruction) throws IndexOutOfBoundsException {
        requireInstruction(instruction);
        freshenAnalysis();
        return plan.stateOf[instruction];
    }

    public int states(int state) throws IllegalArgumentException {
        if (state < DEAD || state > KEPT) {
            throw new IllegalArgumentException("the state is not 0 to 4");
        }
        freshenAnalysis();
        int found = 0;
        for (int i = 0; i < present.program.count; i++) {
            if (plan.stateOf[i] == state) {
                found++;
            }
        }
        return found;
    }

    public int coveredBy(int instruction) throws IndexOutOfBoundsException {
        requireInstruction(instruction);
        freshenAnalysis();
        return plan.cover[instruction];
    }

    public long range(int instruction, boolean high)
            throws IndexOutOfBoundsException, IllegalStateException {
        requireInstruction(instruction);
        requireNoLoopEdge(instruction);
        freshenAnalysis();
        return high ? analysis.resultHigh[instruction] : analysis.resultLow[instruction];
    }

    public int finalRange(int variable, boolean high) throws IndexOutOfBoundsException {
        requireVariable(variable);
        freshenAnalysis();
        return high ? analysis.finalHigh(variable) : analysis.finalLow(variable);
    }

    public boolean completes() {
        freshenAnalysis();
        return !analysis.ended;
    }

    // ---- runs

    public int failure(boolean optimized) {
        freshenRuns();
        return outcomeOf(optimized).failedAt;
    }

    public int result(int variable, boolean optimized) throws IndexOutOfBoundsException {
        requireVariable(variable);
        freshenRuns();
        return (int) outcomeOf(optimized).values[variable];
    }

    public int checks(boolean optimized) {
        freshenRuns();
        return optimized ? optimizedRun.checksDone : plainRun.checksDone;
    }

    public int executed() {
        freshenRuns();
        return plainRun.completed;
    }

    public double saving() {
        freshenRuns();
        if (plainRun.checksDone == 0) {
            return 0.0;
        }
        return 1.0 - (double) optimizedRun.checksDone / (double) plainRun.checksDone;
    }

    // ---- what if

    public int openWith(int variable, int low, int high)
            throws IndexOutOfBoundsException, IllegalArgumentException {
        requireVariable(variable);
        requireOrder(low, high);
        return openChecksWith(variable, low, high);
    }

    public int safePower(int variable) throws IndexOutOfBoundsException {
        requireVariable(variable);
        int low = present.inputs.low[variable];
        int safe = 0;
        for (int exponent = 0; exponent <= LAST_POWER; exponent++) {
            int power = 1 << exponent;
            if (power - 1 >= low) {
                if (openChecksWith(variable, low, power - 1) > 0) {
                    return safe;
                }
                safe = power;
            }
        }
        return safe;
    }

    /**
     * Looks at blocks of inputs by ranges, since one look can tell that none of them fails, and makes
     * the blocks smaller where a check can fail, down to one input and a plain run with it.
     */
    public int failingInput(int variable) throws IndexOutOfBoundsException {
        requireVariable(variable);
        trialInputs.narrowTo(present.inputs);
        long from = present.inputs.value[variable];
        long last = Math.min(from + INPUTS_AHEAD, present.inputs.high[variable]);
        int width = TRIAL_WIDTH;
        for (int trial = 0; trial <= TRIAL_WIDTH + INPUTS_AHEAD && from <= last; trial++) {
            long to = Math.min(from + width, last);
            if (from == to) {
                if (failsWith(variable, (int) from)) {
                    return (int) from;
                }
                from++;
            } else if (canFailBetween(variable, (int) from, (int) to)) {
                width /= 2;
            } else {
                from = to + 1;
            }
        }
        return Integer.MIN_VALUE;
    }

    // ---- state

    public int undo() throws IllegalStateException {
        if (history.saved == 0) {
            throw new IllegalStateException("there is no saved state");
        }
        history.restore(present);
        forgetAnswers();
        return history.saved;
    }

    public long digest() {
        freshenRuns();
        long hash = mixed(DIGEST_START, text.length);
        hash = mixed(hash, present.program.count);
        for (int i = 0; i < present.program.count; i++) {
            hash = mixedInstruction(hash, i);
        }
        for (int variable = 0; variable < VARIABLES; variable++) {
            hash = mixedVariable(hash, variable);
        }
        hash = mixedRun(hash, plainRun, plainRun.checksDone);
        hash = mixedRun(hash, outcomeOf(true), optimizedRun.checksDone);
        hash = mixed(hash, plainRun.completed);
        return mixed(hash, history.saved);
    }

    private long mixedInstruction(long start, int i) {
        Program program = present.program;
        long hash = mixed(start, program.kind[i]);
        hash = mixed(hash, program.target[i]);
        hash = mixed(hash, program.depth[i]);
        hash = mixed(hash, program.partner[i]);
        hash = mixed(hash, program.first[i]);
        hash = mixed(hash, program.second[i]);
        hash = mixed(hash, plan.stateOf[i]);
        return mixed(hash, plan.cover[i]);
    }

    private long mixedVariable(long start, int variable) {
        Inputs inputs = present.inputs;
        long hash = mixed(start, inputs.low[variable]);
        hash = mixed(hash, inputs.high[variable]);
        hash = mixed(hash, inputs.value[variable]);
        hash = mixed(hash, analysis.finalLow(variable));
        return mixed(hash, analysis.finalHigh(variable));
    }

    private static long mixedRun(long start, Run outcome, int checksDone) {
        long hash = mixed(start, outcome.failedAt);
        for (int variable = 0; variable < VARIABLES; variable++) {
            hash = mixed(hash, (int) outcome.values[variable]);
        }
        return mixed(hash, checksDone);
    }

    private static long mixed(long hash, long value) {
        return 31 * hash + value;
    }

    private static void requireVariable(int variable) {
        if (variable < 0 || variable >= VARIABLES) {
            throw new IndexOutOfBoundsException("there is no such variable");
        }
    }

    private static void requireOrder(int low, int high) {
        if (low > high) {
            throw new IllegalArgumentException("the low end is greater than the high end");
        }
    }

    private void requireInstruction(int instruction) {
        if (instruction < 0 || instruction >= present.program.count) {
            throw new IndexOutOfBoundsException("there is no such instruction");
        }
    }

    private void requireNoLoopEdge(int instruction) {
        if (present.program.isLoopEdge(instruction)) {
            throw new IllegalStateException("it is a loop begin or a loop end");
        }
    }

    private void saveForUndo() {
        history.save(present);
        forgetAnswers();
    }

    private void forgetAnswers() {
        analysisIsFresh = false;
        runsAreFresh = false;
    }

    private void freshenAnalysis() {
        if (!analysisIsFresh) {
            analysis.go(present.program, present.inputs);
            plan.make(present.program, analysis);
            analysisIsFresh = true;
        }
    }

    private void freshenRuns() {
        if (!runsAreFresh) {
            freshenAnalysis();
            plainRun.goPlain(present.program, present.inputs);
            optimizedRun.goOptimized(present.program, present.inputs, plan);
            runsAreFresh = true;
        }
    }

    /** A failed optimized run has the plain run's outcome: its own values may be ahead of it. */
    private Run outcomeOf(boolean optimized) {
        return optimized && optimizedRun.failedAt == NONE ? optimizedRun : plainRun;
    }

    private int openChecksWith(int variable, int low, int high) {
        trialInputs.copyFrom(present.inputs);
        trialInputs.low[variable] = low;
        trialInputs.high[variable] = high;
        trialAnalysis.go(present.program, trialInputs);
        return trialAnalysis.openChecks;
    }

    private boolean canFailBetween(int variable, int from, int to) {
        trialInputs.low[variable] = from;
        trialInputs.high[variable] = to;
        trialAnalysis.go(present.program, trialInputs);
        return trialAnalysis.openChecks > 0;
    }

    private boolean failsWith(int variable, int value) {
        trialInputs.value[variable] = value;
        trialRun.goPlain(present.program, trialInputs);
        return trialRun.failedAt != NONE;
    }

    private static boolean isInt(long value) {
        return value >= Integer.MIN_VALUE && value <= Integer.MAX_VALUE;
    }

    private static boolean isVariable(int operand) {
        return operand >= 0 && operand < VARIABLES;
    }

    /** The program text. */
    private static final class Text {
        private final int[] bytes = new int[MAX_TEXT];
        private int length = 0;

        private void add(int value) {
            if (length < MAX_TEXT) {
                bytes[length] = value;
                length++;
            }
        }

        private int at(int index) {
            return index >= 0 && index < length ? bytes[index] : END_OF_TEXT;
        }
    }

    /** Instructions by number; operands are held as operand() tells them. */
    private static final class Program {
        private int count = 0;
        private final int[] kind = new int[MAX_INSTRUCTIONS];
        private final int[] target = new int[MAX_INSTRUCTIONS];
        private final int[] first = new int[MAX_INSTRUCTIONS];
        private final int[] second = new int[MAX_INSTRUCTIONS];
        private final int[] depth = new int[MAX_INSTRUCTIONS];
        private final int[] partner = new int[MAX_INSTRUCTIONS];

        private void copyFrom(Program other) {
            count = other.count;
            System.arraycopy(other.kind, 0, kind, 0, count);
            System.arraycopy(other.target, 0, target, 0, count);
            System.arraycopy(other.first, 0, first, 0, count);
            System.arraycopy(other.second, 0, second, 0, count);
            System.arraycopy(other.depth, 0, depth, 0, count);
            System.arraycopy(other.partner, 0, partner, 0, count);
        }

        private void add(int newKind, int newTarget, int newFirst, int newSecond, int newDepth) {
            if (count < MAX_INSTRUCTIONS) {
                kind[count] = newKind;
                target[count] = newTarget;
                first[count] = newFirst;
                second[count] = newSecond;
                depth[count] = newDepth;
                partner[count] = NONE;
                count++;
            }
        }

        private void pair(int begin, int end) {
            partner[begin] = end;
            partner[end] = begin;
        }

        private void takeOut(int gone) {
            for (int i = gone; i < count - 1; i++) {
                kind[i] = kind[i + 1];
                target[i] = target[i + 1];
                first[i] = first[i + 1];
                second[i] = second[i + 1];
                depth[i] = depth[i + 1];
                partner[i] = partner[i + 1];
            }
            count--;
            for (int i = 0; i < count; i++) {
                if (partner[i] > gone) {
                    partner[i]--;
                }
            }
        }

        private boolean isLoopEdge(int i) {
            return kind[i] == LOOP_BEGIN || kind[i] == LOOP_END;
        }

        private boolean hasCheck(int i) {
            return kind[i] == SUM || kind[i] == DIFFERENCE || kind[i] == PRODUCT;
        }

        /** A loop begin has its count where others have the result variable. */
        private boolean assigns(int i, int operand) {
            return !isLoopEdge(i) && target[i] == operand;
        }

        private boolean uses(int i, int operand) {
            return first[i] == operand || second[i] == operand;
        }

        /** The operand beside the variable, or NONE if the variable is not exactly one operand. */
        private int besides(int i, int variable) {
            if (first[i] == variable) {
                return second[i] == variable ? NONE : second[i];
            }
            return second[i] == variable ? first[i] : NONE;
        }

        private int innermostLoopOf(int i) {
            for (int begin = i - 1; begin >= 0; begin--) {
                if (kind[begin] == LOOP_BEGIN && partner[begin] > i) {
                    return begin;
                }
            }
            return NONE;
        }
    }

    /** Reads a text into a program, from its first byte up to the first that cannot stand. */
    private static final class Parser {
        private final Text text;
        private final Program program;
        private int at = 0;
        private int error = NONE;
        private int depth = 0;
        private final int[] openLoop = new int[MAX_DEPTH];

        private Parser(Text from, Program into) {
            text = from;
            program = into;
        }

        /** Returns the syntax error position, or NONE. */
        private int read() {
            program.count = 0;
            at = 0;
            error = NONE;
            depth = 0;
            for (int n = 0; n < MAX_TEXT && error == NONE && at < text.length; n++) {
                readStatement();
            }
            if (error == NONE && depth > 0) {
                error = text.length;
            }
            return error;
        }

        private void readStatement() {
            int sign = text.at(at);
            if (program.count >= MAX_INSTRUCTIONS) {
                error = at;
            } else if (isLetter(sign)) {
                readAssignment();
            } else if (isDigit(sign) && depth < MAX_DEPTH) {
                readLoopBegin();
            } else if (sign == '}' && depth > 0) {
                readLoopEnd();
            } else {
                error = at;
            }
        }

        private void readAssignment() {
            int target = text.at(at) - 'a';
            at++;
            if (!take('=')) {
                return;
            }
            int first = readOperand();
            if (error != NONE) {
                return;
            }
            int kind = kindOf(text.at(at));
            int second = NONE;
            if (kind != COPY) {
                at++;
                second = readOperand();
            }
            if (error == NONE && take(';')) {
                program.add(kind, target, first, second, depth);
            }
        }

        private void readLoopBegin() {
            int start = at;
            int loops = readNumber(COUNT_DIGITS);
            if (isDigit(text.at(at))) {
                error = at;
            } else if (loops < 1 || loops > MAX_LOOP_COUNT) {
                error = start;
            } else if (take('{') && depth < MAX_DEPTH) {
                openLoop[depth] = program.count;
                program.add(LOOP_BEGIN, loops, NONE, NONE, depth);
                depth++;
            }
        }

        private void readLoopEnd() {
            at++;
            depth--;
            int end = program.count;
            program.add(LOOP_END, NONE, NONE, NONE, depth);
            program.pair(openLoop[depth], end);
        }

        private int readOperand() {
            int sign = text.at(at);
            if (isLetter(sign)) {
                at++;
                return sign - 'a';
            }
            boolean minus = sign == '_';
            if (minus) {
                at++;
            }
            if (!isDigit(text.at(at))) {
                error = at;
                return NONE;
            }
            int number = readNumber(CONSTANT_DIGITS);
            return CONSTANT_BASE + (minus ? -number : number);
        }

        private int readNumber(int digits) {
            int number = 0;
            for (int n = 0; n < digits && isDigit(text.at(at)); n++) {
                number = 10 * number + (text.at(at) - '0');
                at++;
            }
            return number;
        }

        private boolean take(char due) {
            if (text.at(at) != due) {
                error = at;
                return false;
            }
            at++;
            return true;
        }

        private static int kindOf(int sign) {
            switch (sign) {
                case '+':
                    return SUM;
                case '-':
                    return DIFFERENCE;
                case '*':
                    return PRODUCT;
                default:
                    return COPY;
            }
        }

        private static boolean isLetter(int sign) {
            return sign >= 'a' && sign < 'a' + VARIABLES;
        }

        private static boolean isDigit(int sign) {
            return sign >= '0' && sign <= '9';
        }
    }

    /** The input ranges and the inputs. */
    private static final class Inputs {
        private final int[] low = new int[VARIABLES];
        private final int[] high = new int[VARIABLES];
        private final int[] value = new int[VARIABLES];

        private Inputs() {
            for (int variable = 0; variable < VARIABLES; variable++) {
                high[variable] = FIRST_HIGH_END;
            }
        }

        private void copyFrom(Inputs other) {
            System.arraycopy(other.low, 0, low, 0, VARIABLES);
            System.arraycopy(other.high, 0, high, 0, VARIABLES);
            System.arraycopy(other.value, 0, value, 0, VARIABLES);
        }

        private void narrowTo(Inputs other) {
            System.arraycopy(other.value, 0, low, 0, VARIABLES);
            System.arraycopy(other.value, 0, high, 0, VARIABLES);
            System.arraycopy(other.value, 0, value, 0, VARIABLES);
        }

        private int limit(int variable, int newLow, int newHigh) {
            low[variable] = newLow;
            high[variable] = newHigh;
            if (value[variable] < newLow || value[variable] > newHigh) {
                value[variable] = newLow;
            }
            return value[variable];
        }
    }

    /** All that undo() brings back. */
    private static final class Situation {
        private final Program program = new Program();
        private final Inputs inputs = new Inputs();

        private void copyFrom(Situation other) {
            program.copyFrom(other.program);
            inputs.copyFrom(other.inputs);
        }
    }

    /** The saved states, the oldest first. */
    private static final class History {
        private int saved = 0;
        private final Situation[] slots = new Situation[MAX_SAVED];

        private History() {
            for (int i = 0; i < MAX_SAVED; i++) {
                slots[i] = new Situation();
            }
        }

        private void save(Situation present) {
            if (saved == MAX_SAVED) {
                dropOldest();
            }
            slots[saved].copyFrom(present);
            saved++;
        }

        private void dropOldest() {
            Situation oldest = slots[0];
            for (int i = 1; i < MAX_SAVED; i++) {
                slots[i - 1] = slots[i];
            }
            slots[MAX_SAVED - 1] = oldest;
            saved--;
        }

        private void restore(Situation present) {
            if (saved > 0) {
                saved--;
                present.copyFrom(slots[saved]);
            }
        }
    }

    /** The place of a run or of the analysis in a program. */
    private static final class Cursor {
        private int at = 0;
        private final int[] roundsLeft = new int[MAX_DEPTH];

        private void advance(Program program) {
            int level = program.depth[at];
            if (program.kind[at] == LOOP_BEGIN) {
                roundsLeft[level] = program.target[at];
            } else if (program.kind[at] == LOOP_END) {
                roundsLeft[level]--;
                if (roundsLeft[level] > 0) {
                    at = program.partner[at];
                }
            }
            at++;
        }
    }

    /** Goes through a program with ranges in place of values. */
    private static final class Analysis {
        private final Cursor cursor = new Cursor();
        private boolean ended = false;
        private int openChecks = 0;

        private final long[] low = new long[VARIABLES];
        private final long[] high = new long[VARIABLES];
        /** A bit for each variable whose range has negative numbers. */
        private int negative = 0;

        private final boolean[] reached = new boolean[MAX_INSTRUCTIONS];
        private final boolean[] canFail = new boolean[MAX_INSTRUCTIONS];
        private final long[] resultLow = new long[MAX_INSTRUCTIONS];
        private final long[] resultHigh = new long[MAX_INSTRUCTIONS];
        private final int[] negativeAt = new int[MAX_INSTRUCTIONS];

        private long newLow = 0;
        private long newHigh = 0;

        private void go(Program program, Inputs inputs) {
            begin(inputs);
            for (int n = 0; n < STEP_BOUND && cursor.at < program.count && !ended; n++) {
                if (!program.isLoopEdge(cursor.at)) {
                    execute(program, cursor.at);
                }
                cursor.advance(program);
            }
        }

        private void begin(Inputs inputs) {
            cursor.at = 0;
            ended = false;
            openChecks = 0;
            negative = 0;
            for (int variable = 0; variable < VARIABLES; variable++) {
                assign(variable, inputs.low[variable], inputs.high[variable]);
            }
            for (int i = 0; i < MAX_INSTRUCTIONS; i++) {
                reached[i] = false;
                canFail[i] = false;
                resultLow[i] = 0;
                resultHigh[i] = 0;
                negativeAt[i] = 0;
            }
        }

        private void assign(int variable, long toLow, long toHigh) {
            low[variable] = toLow;
            high[variable] = toHigh;
            int bit = 1 << variable;
            negative = toLow < 0 ? negative | bit : negative & ~bit;
        }

        private void execute(Program program, int i) {
            negativeAt[i] |= negative;
            compute(program.kind[i], program.first[i], program.second[i]);
            note(i);
            if (!isInt(newLow) || !isInt(newHigh)) {
                if (!canFail[i]) {
                    canFail[i] = true;
                    openChecks++;
                }
                newLow = Math.max(newLow, Integer.MIN_VALUE);
                newHigh = Math.min(newHigh, Integer.MAX_VALUE);
            }
            if (newLow > newHigh) {
                ended = true;
            } else {
                assign(program.target[i], newLow, newHigh);
            }
        }

        private void compute(int kind, int first, int second) {
            long firstLow = lowOf(first);
            long firstHigh = highOf(first);
            if (kind == SUM) {
                newLow = firstLow + lowOf(second);
                newHigh = firstHigh + highOf(second);
            } else if (kind == DIFFERENCE) {
                newLow = firstLow - highOf(second);
                newHigh = firstHigh - lowOf(second);
            } else if (kind == PRODUCT) {
                multiply(firstLow, firstHigh, lowOf(second), highOf(second));
            } else {
                newLow = firstLow;
                newHigh = firstHigh;
            }
        }

        private void multiply(long firstLow, long firstHigh, long secondLow, long secondHigh) {
            long lowLow = firstLow * secondLow;
            long lowHigh = firstLow * secondHigh;
            long highLow = firstHigh * secondLow;
            long highHigh = firstHigh * secondHigh;
            newLow = Math.min(Math.min(lowLow, lowHigh), Math.min(highLow, highHigh));
            newHigh = Math.max(Math.max(lowLow, lowHigh), Math.max(highLow, highHigh));
        }

        private long lowOf(int operand) {
            return isVariable(operand) ? low[operand] : operand - CONSTANT_BASE;
        }

        private long highOf(int operand) {
            return isVariable(operand) ? high[operand] : operand - CONSTANT_BASE;
        }

        private void note(int i) {
            if (reached[i]) {
                resultLow[i] = Math.min(resultLow[i], newLow);
                resultHigh[i] = Math.max(resultHigh[i], newHigh);
            } else {
                reached[i] = true;
                resultLow[i] = newLow;
                resultHigh[i] = newHigh;
            }
        }

        private int finalLow(int variable) {
            return ended ? 0 : (int) low[variable];
        }

        private int finalHigh(int variable) {
            return ended ? 0 : (int) high[variable];
        }

        /** Whether the operand had no negative numbers at any execution of i and of j. */
        private boolean isNeverNegative(int operand, int i, int j) {
            if (!isVariable(operand)) {
                return operand >= CONSTANT_BASE;
            }
            return ((negativeAt[i] | negativeAt[j]) & (1 << operand)) == 0;
        }
    }

    /** The states of the checks of a program. */
    private static final class Plan {
        private final int[] stateOf = new int[MAX_INSTRUCTIONS];
        private final int[] cover = new int[MAX_INSTRUCTIONS];
        private final boolean[] coversOne = new boolean[MAX_INSTRUCTIONS];

        private void make(Program program, Analysis analysis) {
            for (int i = 0; i < MAX_INSTRUCTIONS; i++) {
                coversOne[i] = false;
            }
            for (int i = 0; i < program.count; i++) {
                cover[i] = findCover(program, analysis, i);
                if (cover[i] != NONE) {
                    coversOne[cover[i]] = true;
                }
            }
            for (int i = 0; i < program.count; i++) {
                stateOf[i] = findState(program, analysis, i);
            }
        }

        private int findState(Program program, Analysis analysis, int i) {
            if (!program.hasCheck(i)) {
                return NONE;
            }
            if (!analysis.reached[i]) {
                return DEAD;
            }
            if (!analysis.canFail[i]) {
                return DROPPED;
            }
            if (cover[i] != NONE) {
                return JOINED;
            }
            return canMoveOut(program, i) ? HOISTED : KEPT;
        }

        private static int findCover(Program program, Analysis analysis, int i) {
            if (program.kind[i] != SUM || !analysis.canFail[i]) {
                return NONE;
            }
            for (int j = i + 1; j < program.count && !program.isLoopEdge(j); j++) {
                if (canCover(program, analysis, i, j)) {
                    return j;
                }
                if (standsBetween(program, analysis, i, j)) {
                    return NONE;
                }
            }
            return NONE;
        }

        /** Whether j covers i, if no instruction between them stands in the way of every one. */
        private static boolean canCover(Program program, Analysis analysis, int i, int j) {
            if (program.kind[j] != SUM || !analysis.canFail[j]) {
                return false;
            }
            int other = program.besides(j, program.target[i]);
            if (other == NONE) {
                return false;
            }
            for (int m = i + 1; m < j; m++) {
                if (program.assigns(m, other)) {
                    return false;
                }
            }
            return analysis.isNeverNegative(program.first[i], i, j)
                    && analysis.isNeverNegative(program.second[i], i, j)
                    && analysis.isNeverNegative(other, i, j);
        }

        /** Whether m keeps every instruction behind it from covering i. */
        private static boolean standsBetween(Program program, Analysis analysis, int i, int m) {
            int variable = program.target[i];
            return analysis.canFail[m]
                    || program.assigns(m, variable)
                    || program.uses(m, variable)
                    || program.assigns(m, program.first[i])
                    || program.assigns(m, program.second[i]);
        }

        /** For a check that can fail and is not joined. */
        private boolean canMoveOut(Program program, int i) {
            int begin = program.innermostLoopOf(i);
            if (program.kind[i] != SUM || coversOne[i] || begin == NONE) {
                return false;
            }
            int variable = program.target[i];
            int added = program.besides(i, variable);
            if (added == NONE) {
                return false;
            }
            for (int m = begin + 1; m < program.partner[begin]; m++) {
                if (m != i && (program.assigns(m, variable) || program.assigns(m, added))) {
                    return false;
                }
            }
            return true;
        }
    }

    /** One run of a program with its inputs. */
    private static final class Run {
        private final Cursor cursor = new Cursor();
        private final long[] values = new long[VARIABLES];
        private int failedAt = NONE;
        private int checksDone = 0;
        private int completed = 0;
        private final boolean[] checked = new boolean[MAX_INSTRUCTIONS];

        private void goPlain(Program program, Inputs inputs) {
            begin(inputs);
            for (int i = 0; i < program.count; i++) {
                checked[i] = program.hasCheck(i);
            }
            for (int n = 0; n < STEP_BOUND && isGoingOn(program); n++) {
                if (!program.isLoopEdge(cursor.at)) {
                    execute(program, cursor.at);
                }
                cursor.advance(program);
            }
        }

        private void goOptimized(Program program, Inputs inputs, Plan plan) {
            begin(inputs);
            for (int i = 0; i < program.count; i++) {
                checked[i] = plan.stateOf[i] == KEPT;
            }
            for (int n = 0; n < STEP_BOUND && isGoingOn(program); n++) {
                if (program.kind[cursor.at] == LOOP_BEGIN) {
                    checkAhead(program, plan, cursor.at);
                } else if (program.kind[cursor.at] != LOOP_END) {
                    execute(program, cursor.at);
                }
                cursor.advance(program);
            }
        }

        private void begin(Inputs inputs) {
            cursor.at = 0;
            failedAt = NONE;
            checksDone = 0;
            completed = 0;
            for (int variable = 0; variable < VARIABLES; variable++) {
                values[variable] = inputs.value[variable];
            }
        }

        private boolean isGoingOn(Program program) {
            return failedAt == NONE && cursor.at < program.count;
        }

        /** Does the checks of the hoisted instructions that lie directly in the loop. */
        private void checkAhead(Program program, Plan plan, int begin) {
            int rounds = program.target[begin];
            int inside = program.depth[begin] + 1;
            for (int i = begin + 1; i < program.partner[begin]; i++) {
                if (plan.stateOf[i] == HOISTED && program.depth[i] == inside) {
                    int variable = program.target[i];
                    long added = valueOf(program.besides(i, variable));
                    checksDone++;
                    checked[i] = !isInt(values[variable] + rounds * added);
                }
            }
        }

        private void execute(Program program, int i) {
            long exact = compute(program.kind[i], program.first[i], program.second[i]);
            if (checked[i]) {
                checksDone++;
                if (!isInt(exact)) {
                    failedAt = i;
                    return;
                }
            }
            values[program.target[i]] = exact;
            completed++;
        }

        private long compute(int kind, int first, int second) {
            long left = valueOf(first);
            if (kind == SUM) {
                return left + valueOf(second);
            }
            if (kind == DIFFERENCE) {
                return left - valueOf(second);
            }
            return kind == PRODUCT ? left * valueOf(second) : left;
        }

        private long valueOf(int operand) {
            return isVariable(operand) ? values[operand] : operand - CONSTANT_BASE;
        }
    }
}
