import java.math.BigInteger;
import java.util.ArrayList;
import java.util.Arrays;
import java.util.List;

/**
 * The document once more, told slowly and in another way than the class does it: loops are unrolled
 * into a list of executions, numbers are BigIntegers, nothing is kept between two calls.
 */
final class Model {
    private static final BigInteger LEAST = BigInteger.valueOf(Integer.MIN_VALUE);
    private static final BigInteger GREATEST = BigInteger.valueOf(Integer.MAX_VALUE);

    /** p and q as the text has them ("a", "_12"), null if there is none. */
    record Ins(int kind, int v, String p, String q) {
    }

    record State(List<Ins> program, int[] low, int[] high, int[] value) {
        State copy() {
            return new State(List.copyOf(program), low.clone(), high.clone(), value.clone());
        }
    }

    /** An execution of an instruction in the analysis: the ranges of all variables before it. */
    record Seen(int at, BigInteger[] low, BigInteger[] high) {
    }

    static final class Looked {
        final List<Seen> seen = new ArrayList<>();
        final BigInteger[][] all = new BigInteger[30][];
        final boolean[] canFail = new boolean[30];
        BigInteger[] low;
        BigInteger[] high;
        boolean completes = true;
    }

    static final class Ran {
        int failure = -1;
        int checks = 0;
        int executed = 0;
        BigInteger[] value;
    }

    StringBuilder text = new StringBuilder();
    State now = new State(List.of(), new int[8], hundred(), new int[8]);
    final List<State> saved = new ArrayList<>();

    private static int[] hundred() {
        int[] row = new int[8];
        Arrays.fill(row, 100);
        return row;
    }

    // ---- the text

    /** The least length whose bytes cannot be the begin of any text, by a machine of one state a byte. */
    int parse() {
        List<Ins> found = new ArrayList<>();
        int depth = 0;
        String place = "start";
        String v = "";
        String p = "";
        String q = "";
        char op = ' ';
        String count = "";
        for (int i = 0; i <= text.length(); i++) {
            boolean end = i == text.length();
            char c = end ? '\n' : text.charAt(i);
            boolean letter = c >= 'a' && c <= 'h';
            boolean digit = c >= '0' && c <= '9';
            if (place.equals("count") && !digit) {
                int n = Integer.parseInt(count);
                if (n < 1 || n > 40) {
                    return -10 - (i - count.length());
                }
            }
            if (end) {
                if (place.equals("start") && depth == 0) {
                    break;
                }
                return -10 - i;
            }
            switch (place) {
                case "start" -> {
                    if (found.size() == 30) {
                        return -10 - i;
                    } else if (letter) {
                        v = "" + c;
                        p = "";
                        q = "";
                        place = "equals";
                    } else if (digit && depth < 2) {
                        count = "" + c;
                        place = "count";
                    } else if (c == '}' && depth > 0) {
                        depth--;
                        found.add(new Ins(5, -1, null, null));
                    } else {
                        return -10 - i;
                    }
                }
                case "count" -> {
                    if (digit && count.length() == 1) {
                        count += c;
                    } else if (c == '{') {
                        found.add(new Ins(4, Integer.parseInt(count), null, null));
                        depth++;
                        place = "start";
                    } else {
                        return -10 - i;
                    }
                }
                case "equals" -> {
                    if (c != '=') {
                        return -10 - i;
                    }
                    place = "first";
                }
                case "first" -> {
                    if ((p + c).matches("[a-h]|_?[0-9]{0,4}")) {
                        p += c;
                    } else if (p.matches("[a-h]|_?[0-9]{1,4}") && c == ';') {
                        found.add(new Ins(0, v.charAt(0) - 'a', p, null));
                        place = "start";
                    } else if (p.matches("[a-h]|_?[0-9]{1,4}") && (c == '+' || c == '-' || c == '*')) {
                        op = c;
                        place = "second";
                    } else {
                        return -10 - i;
                    }
                }
                default -> {
                    if ((q + c).matches("[a-h]|_?[0-9]{0,4}")) {
                        q += c;
                    } else if (q.matches("[a-h]|_?[0-9]{1,4}") && c == ';') {
                        found.add(new Ins(op == '+' ? 1 : op == '-' ? 2 : 3, v.charAt(0) - 'a', p, q));
                        place = "start";
                    } else {
                        return -10 - i;
                    }
                }
            }
        }
        save();
        now = new State(found, now.low, now.high, now.value);
        return found.size();
    }

    // ---- the program

    void save() {
        saved.add(now.copy());
        if (saved.size() > 4) {
            saved.remove(0);
        }
    }

    int partner(int i) {
        int kind = now.program.get(i).kind;
        if (kind < 4) {
            return -1;
        }
        int step = kind == 4 ? 1 : -1;
        int open = 0;
        for (int m = i;; m += step) {
            int k = now.program.get(m).kind;
            open += k == kind ? 1 : k == 9 - kind ? -1 : 0;
            if (open == 0) {
                return m;
            }
        }
    }

    /** The loop begins round i, the outermost first. */
    List<Integer> loopsRound(int i) {
        List<Integer> round = new ArrayList<>();
        for (int m = 0; m < i; m++) {
            if (now.program.get(m).kind == 4 && partner(m) > i) {
                round.add(m);
            }
        }
        return round;
    }

    int operand(String operand) {
        if (operand == null) {
            return -1;
        }
        return isVar(operand) ? operand.charAt(0) - 'a' : 20000 + constant(operand).intValue();
    }

    static boolean isVar(String operand) {
        return Character.isLetter(operand.charAt(0));
    }

    static BigInteger constant(String operand) {
        return new BigInteger(operand.replace('_', '-'));
    }

    static BigInteger valueOf(String operand, BigInteger[] values) {
        return isVar(operand) ? values[operand.charAt(0) - 'a'] : constant(operand);
    }

    static String name(int v) {
        return "" + (char) ('a' + v);
    }

    /** The numbers of all instructions in the order in which a run without failures reaches them. */
    List<Integer> order(int from, int to) {
        List<Integer> all = new ArrayList<>();
        int i = from;
        while (i < to) {
            Ins ins = now.program.get(i);
            if (ins.kind != 4) {
                all.add(i);
                i++;
                continue;
            }
            int end = partner(i);
            all.add(i);
            List<Integer> round = order(i + 1, end);
            for (int n = 0; n < ins.v; n++) {
                all.addAll(round);
            }
            i = end + 1;
        }
        return all;
    }

    static boolean isInt(BigInteger x) {
        return x.compareTo(LEAST) >= 0 && x.compareTo(GREATEST) <= 0;
    }

    static BigInteger compute(int kind, BigInteger p, BigInteger q) {
        return switch (kind) {
            case 1 -> p.add(q);
            case 2 -> p.subtract(q);
            default -> p.multiply(q);
        };
    }

    // ---- analysis

    Looked look(int[] low, int[] high) {
        Looked looked = new Looked();
        BigInteger[] lo = big(low);
        BigInteger[] hi = big(high);
        for (int i : order(0, now.program.size())) {
            Ins ins = now.program.get(i);
            if (ins.kind >= 4) {
                continue;
            }
            looked.seen.add(new Seen(i, lo.clone(), hi.clone()));
            BigInteger[] ends = {valueOf(ins.p, lo), valueOf(ins.p, hi)};
            if (ins.kind > 0) {
                BigInteger[] four = new BigInteger[4];
                for (int m = 0; m < 4; m++) {
                    four[m] = compute(ins.kind, ends[m / 2], valueOf(ins.q, m % 2 == 0 ? lo : hi));
                }
                Arrays.sort(four);
                ends = new BigInteger[] {four[0], four[3]};
            }
            if (looked.all[i] == null) {
                looked.all[i] = ends.clone();
            }
            looked.all[i][0] = looked.all[i][0].min(ends[0]);
            looked.all[i][1] = looked.all[i][1].max(ends[1]);
            if (!isInt(ends[0]) || !isInt(ends[1])) {
                looked.canFail[i] = true;
            }
            lo[ins.v] = ends[0].max(LEAST);
            hi[ins.v] = ends[1].min(GREATEST);
            if (lo[ins.v].compareTo(hi[ins.v]) > 0) {
                looked.completes = false;
                break;
            }
        }
        looked.low = lo;
        looked.high = hi;
        return looked;
    }

    static BigInteger[] big(int[] row) {
        BigInteger[] all = new BigInteger[row.length];
        for (int i = 0; i < row.length; i++) {
            all[i] = BigInteger.valueOf(row[i]);
        }
        return all;
    }

    Looked look() {
        return look(now.low, now.high);
    }

    int cover(Looked looked, int i) {
        for (int j = i + 1; j < now.program.size(); j++) {
            if (covers(looked, i, j)) {
                return j;
            }
        }
        return -1;
    }

    private boolean covers(Looked looked, int i, int j) {
        Ins a = now.program.get(i);
        Ins b = now.program.get(j);
        if (a.kind != 1 || !looked.canFail[i] || b.kind != 1 || !looked.canFail[j]) {
            return false;
        }
        String v = name(a.v);
        if (b.p.equals(v) == b.q.equals(v)) {
            return false;
        }
        String other = b.p.equals(v) ? b.q : b.p;
        for (int m = i + 1; m < j; m++) {
            Ins c = now.program.get(m);
            if (c.kind >= 4 || looked.canFail[m]) {
                return false;
            }
            String r = name(c.v);
            if (r.equals(v) || v.equals(c.p) || v.equals(c.q)) {
                return false;
            }
            if (r.equals(a.p) || r.equals(a.q) || r.equals(other)) {
                return false;
            }
        }
        for (Seen seen : looked.seen) {
            if (seen.at == i || seen.at == j) {
                for (String operand : new String[] {a.p, a.q, other}) {
                    if (valueOf(operand, seen.low).signum() < 0) {
                        return false;
                    }
                }
            }
        }
        return true;
    }

    int state(Looked looked, int i) {
        int kind = now.program.get(i).kind;
        if (kind < 1 || kind > 3) {
            return -1;
        }
        if (looked.all[i] == null) {
            return 0;
        }
        if (!looked.canFail[i]) {
            return 1;
        }
        if (cover(looked, i) >= 0) {
            return 2;
        }
        return hoisted(looked, i) ? 3 : 4;
    }

    private boolean hoisted(Looked looked, int i) {
        List<Integer> round = loopsRound(i);
        Ins ins = now.program.get(i);
        if (round.isEmpty() || ins.kind != 1) {
            return false;
        }
        for (int m = 0; m < i; m++) {
            if (covers(looked, m, i)) {
                return false;
            }
        }
        String v = name(ins.v);
        if (ins.p.equals(v) == ins.q.equals(v)) {
            return false;
        }
        String k = ins.p.equals(v) ? ins.q : ins.p;
        int begin = round.get(round.size() - 1);
        for (int m = begin + 1; m < partner(begin); m++) {
            Ins other = now.program.get(m);
            if (m != i && other.kind < 4 && (name(other.v).equals(v) || name(other.v).equals(k))) {
                return false;
            }
        }
        return true;
    }

    // ---- runs

    Ran plain(int[] inputs) {
        Ran ran = new Ran();
        ran.value = big(inputs);
        for (int i : order(0, now.program.size())) {
            Ins ins = now.program.get(i);
            if (ins.kind >= 4) {
                continue;
            }
            BigInteger exact = valueOf(ins.p, ran.value);
            if (ins.kind > 0) {
                ran.checks++;
                exact = compute(ins.kind, exact, valueOf(ins.q, ran.value));
                if (!isInt(exact)) {
                    ran.failure = i;
                    return ran;
                }
            }
            ran.value[ins.v] = exact;
            ran.executed++;
        }
        return ran;
    }

    Ran optimized() {
        Looked looked = look();
        int[] states = new int[now.program.size()];
        for (int i = 0; i < states.length; i++) {
            states[i] = state(looked, i);
        }
        boolean[] free = new boolean[states.length];
        Ran ran = new Ran();
        ran.value = big(now.value);
        for (int i : order(0, now.program.size())) {
            Ins ins = now.program.get(i);
            if (ins.kind == 4) {
                for (int m = i + 1; m < partner(i); m++) {
                    List<Integer> round = loopsRound(m);
                    if (states[m] == 3 && round.get(round.size() - 1) == i) {
                        Ins sum = now.program.get(m);
                        String k = sum.p.equals(name(sum.v)) ? sum.q : sum.p;
                        BigInteger n = BigInteger.valueOf(ins.v);
                        ran.checks++;
                        free[m] = isInt(ran.value[sum.v].add(n.multiply(valueOf(k, ran.value))));
                    }
                }
            }
            if (ins.kind >= 4) {
                continue;
            }
            BigInteger exact = valueOf(ins.p, ran.value);
            if (ins.kind > 0) {
                exact = compute(ins.kind, exact, valueOf(ins.q, ran.value));
                if (states[i] == 4 || states[i] == 3 && !free[i]) {
                    ran.checks++;
                    if (!isInt(exact)) {
                        Ran plain = plain(now.value);
                        ran.failure = plain.failure;
                        ran.value = plain.value;
                        return ran;
                    }
                }
            }
            ran.value[ins.v] = exact;
        }
        return ran;
    }

    Ran run(boolean optimized) {
        return optimized ? optimized() : plain(now.value);
    }

    // ---- what if

    int openWith(int variable, int low, int high) {
        int[] lows = now.low.clone();
        int[] highs = now.high.clone();
        lows[variable] = low;
        highs[variable] = high;
        Looked looked = look(lows, highs);
        int open = 0;
        for (int i = 0; i < now.program.size(); i++) {
            open += state(looked, i) >= 2 ? 1 : 0;
        }
        return open;
    }

    int safePower(int variable) {
        int best = 0;
        for (int power = 1 << 30; power >= 1; power /= 2) {
            boolean good = power >= now.low[variable] + 1L;
            for (int smaller = power; smaller >= 1 && smaller >= now.low[variable] + 1L; smaller /= 2) {
                good &= openWith(variable, now.low[variable], smaller - 1) == 0;
            }
            if (good) {
                best = Math.max(best, power);
            }
        }
        return best;
    }

    int failingInput(int variable) {
        int[] inputs = now.value.clone();
        for (long x = now.value[variable]; x <= now.value[variable] + 200L; x++) {
            if (x <= now.high[variable]) {
                inputs[variable] = (int) x;
                if (plain(inputs).failure >= 0) {
                    return (int) x;
                }
            }
        }
        return Integer.MIN_VALUE;
    }

    // ---- state

    long digest() {
        List<Long> all = new ArrayList<>();
        Looked looked = look();
        all.add((long) text.length());
        all.add((long) now.program.size());
        for (int i = 0; i < now.program.size(); i++) {
            Ins ins = now.program.get(i);
            all.add((long) ins.kind);
            all.add((long) ins.v);
            all.add((long) loopsRound(i).size());
            all.add((long) partner(i));
            all.add((long) operand(ins.p));
            all.add((long) operand(ins.q));
            all.add((long) state(looked, i));
            all.add((long) cover(looked, i));
        }
        for (int v = 0; v < 8; v++) {
            all.add((long) now.low[v]);
            all.add((long) now.high[v]);
            all.add((long) now.value[v]);
            all.add(looked.completes ? looked.low[v].longValueExact() : 0L);
            all.add(looked.completes ? looked.high[v].longValueExact() : 0L);
        }
        for (int mode = 0; mode < 2; mode++) {
            Ran ran = run(mode == 1);
            all.add((long) ran.failure);
            for (int v = 0; v < 8; v++) {
                all.add((long) ran.value[v].intValue());
            }
            all.add((long) ran.checks);
        }
        all.add((long) plain(now.value).executed);
        all.add((long) saved.size());
        BigInteger h = BigInteger.valueOf(2953);
        for (long v : all) {
            h = h.multiply(BigInteger.valueOf(31)).add(BigInteger.valueOf(v));
        }
        return h.longValue();
    }
}
