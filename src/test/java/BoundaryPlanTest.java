/** Boundary cases of the document's 'Terms': Joining, Hoisting and Runs. */
public final class BoundaryPlanTest {
    private static final int MIN = Integer.MIN_VALUE;
    private static final int MAX = Integer.MAX_VALUE;
    private static final int NONE = OverflowGuards.NONE;
    private static final int DROPPED = 1;
    private static final int JOINED = 2;
    private static final int HOISTED = 3;
    private static final int KEPT = 4;
    private static final Due DUE = new Due();

    public static void main(String[] args) {
        joinedIsASumThatCanFail();
        coverIsLater();
        noLoopEdgeBetween();
        coverIsASumThatCanFail();
        exactlyOneOperand();
        nothingBetween();
        betweenEndsBeforeTheCover();
        withoutNegativeNumbers();
        atEveryExecution();
        atMostOneCover();
        innermostLoop();
        sumOfItself();
        hoistedCanFail();
        notJoinedNorCovering();
        otherThanItself();
        notTheResultInThatLoop();
        allChecksInAPlainRun();
        checkedAhead();
        eachTimeWhenReached();
        eachHoistedOne();
        deadAndDroppedHaveNoChecks();
        joinedHasNoCheck();
        coveringCheck();
        outcomeOfThePlainRun();
        outcome();
        numberOfChecks();
        DUE.end();
    }

    private static void same(String what, long got, long want) {
        DUE.same(what, got, want);
    }

    /** a to f may be 0 to MAX, g and h are 0 to 100. */
    private static OverflowGuards wide(String text) {
        OverflowGuards x = Due.with(text);
        for (int v = 0; v < 6; v++) {
            x.setRange(v, 0, MAX);
        }
        return x;
    }

    private static void covers(String text, int i, int j) {
        OverflowGuards x = wide(text);
        same("state of " + i + " in " + text, x.state(i), JOINED);
        same("cover of " + i + " in " + text, x.coveredBy(i), j);
    }

    private static void coversNot(String text, int i, int state) {
        OverflowGuards x = wide(text);
        same("state of " + i + " in " + text, x.state(i), state);
        same("cover of " + i + " in " + text, x.coveredBy(i), NONE);
    }

    // ---- Joining

    private static void joinedIsASumThatCanFail() {
        DUE.sentence("Joining",
                "The instruction i, a sum with the variable v as its result, whose check can fail");
        covers("d=a+b;e=d+c;", 0, 1);
        coversNot("d=a-_9;e=d+c;", 0, KEPT);
        coversNot("d=a*b;e=d+c;", 0, KEPT);
        coversNot("d=a;e=d+c;", 0, NONE);
        coversNot("d=g+h;e=d+c;", 0, DROPPED);
        OverflowGuards x = wide("d=a+h;e=d+c;");
        x.setRange(0, 0, MAX - 100);
        same("a sum up to MAX", x.coveredBy(0), NONE);
        x.setRange(0, 0, MAX - 99);
        same("a sum over MAX", x.coveredBy(0), 1);
    }

    private static void coverIsLater() {
        DUE.sentence("Joining", "is covered by the instruction j, a later one");
        coversNot("1{e=d+c;d=a+b;}", 2, KEPT);
        coversNot("2{e=d+c;d=a+b;}", 2, KEPT);
        coversNot("e=d+c;d=a+b;", 1, KEPT);
        coversNot("d=a+b;", 0, KEPT);
        // an instruction is not later than itself
        coversNot("d=d+a;", 0, KEPT);
        covers("f=1;".repeat(28) + "d=a+b;e=d+c;", 28, 29);
        covers("d=a+b;" + "f=1;".repeat(28) + "e=d+c;", 0, 29);
    }

    private static void noLoopEdgeBetween() {
        DUE.sentence("Joining", "no instruction from i + 1 to j is a loop begin or a loop end");
        coversNot("d=a+b;2{e=d+c;}", 0, KEPT);
        coversNot("2{d=a+b;}e=d+c;", 1, KEPT);
        coversNot("d=a+b;2{}e=d+c;", 0, KEPT);
        coversNot("d=a+b;2{}f=1;e=d+c;", 0, KEPT);
        coversNot("d=a+b;f=1;2{}e=d+c;", 0, KEPT);
        coversNot("3{d=a+b;2{e=d+c;}}", 1, KEPT);
        coversNot("3{2{d=a+b;}e=d+c;}", 2, KEPT);
        covers("2{d=a+b;e=d+c;}", 1, 2);
        covers("2{}d=a+b;e=d+c;2{}", 2, 3);
        covers("3{2{d=a+b;e=d+c;}}", 2, 3);
        covers("3{2{}d=a+b;e=d+c;2{}}", 3, 4);
    }

    private static void coverIsASumThatCanFail() {
        DUE.sentence("Joining", "j is a sum whose check can fail");
        coversNot("d=a+b;e=d-_9;", 0, KEPT);
        coversNot("d=a+b;e=d*c;", 0, KEPT);
        coversNot("d=a+b;e=d;", 0, KEPT);
        // d is cut to 0 to MAX: d + 0 cannot fail, d + 1 can
        coversNot("d=a+b;e=d+0;", 0, KEPT);
        coversNot("d=a+b;e=d+_1;", 0, KEPT);
        covers("d=a+b;e=d+1;", 0, 1);
        OverflowGuards x = wide("d=a+b;e=d+c;");
        x.setRange(2, 0, 0);
        same("the other operand is 0", x.coveredBy(0), NONE);
        x.setRange(2, 0, 1);
        same("the other operand may be 1", x.coveredBy(0), 1);
    }

    private static void exactlyOneOperand() {
        DUE.sentence("Joining", "with v as exactly one of its operands");
        covers("d=a+b;e=d+c;", 0, 1);
        covers("d=a+b;e=c+d;", 0, 1);
        covers("d=a+b;e=d+9999;", 0, 1);
        covers("d=a+b;e=9999+d;", 0, 1);
        coversNot("d=a+b;e=d+d;", 0, KEPT);
        coversNot("d=a+b;e=a+c;", 0, KEPT);
        coversNot("d=a+b;e=a+c;e=d+c;", 0, KEPT);
        covers("d=a+b;e=d+a;", 0, 1);
        covers("d=a+b;e=b+d;", 0, 1);
    }

    private static void nothingBetween() {
        DUE.sentence("Joining", "no instruction from i + 1 to j - 1 has v as its result or as an operand, "
                + "has a check that can fail, or has an operand of i or the other operand of j as its result");
        String[] hindering = {
            "d=5;", "d=d;", "d=1+1;", "f=d;", "f=d-1;", "f=1-d;", "f=0*d;", "f=d*0;", "f=d+0;", "f=d-d;",
            "f=a+1;", "f=a*2;", "f=_2-a;", "f=a-_1;",
            "a=1;", "a=a;", "a=g+h;", "b=1;", "b=b;", "b=g*h;", "c=1;", "c=c;", "c=g-h;",
        };
        String[] harmless = {
            "f=a;", "f=b;", "f=c;", "f=a-b;", "f=c-a;", "f=1+1;", "e=1;", "e=e;", "g=g+h;", "f=a*0;",
            "h=c-1;", "f=e-c;",
        };
        // the instruction stands at i + 1, in the midst, and at j - 1
        for (int ahead = 0; ahead <= 2; ahead++) {
            String before = "d=a+b;" + "h=1;".repeat(ahead);
            String behind = "g=2;".repeat(2 - ahead) + "e=d+c;";
            for (String instruction : hindering) {
                coversNot(before + instruction + behind, 0, KEPT);
            }
            for (String instruction : harmless) {
                covers(before + instruction + behind, 0, 4);
            }
        }
        // a constant is no variable's number
        covers("a=c+3;d=1;e=a+5;", 0, 2);
        covers("b=c+3;f=1;e=b+5;", 0, 2);
    }

    private static void betweenEndsBeforeTheCover() {
        DUE.sentence("Joining", "from i + 1 to j - 1");
        covers("d=a+b;d=d+c;", 0, 1);
        covers("d=a+b;a=d+c;", 0, 1);
        covers("d=a+b;b=d+c;", 0, 1);
        covers("d=a+b;c=d+c;", 0, 1);
        covers("d=d+b;e=d+c;", 0, 1);
        covers("d=b+d;e=d+c;", 0, 1);
        covers("d=d+d;e=d+c;", 0, 1);
        covers("a=1;b=1;c=1;d=f;d=d+a;e=d+c;a=1;b=1;c=1;f=d;", 4, 5);
    }

    private static void withoutNegativeNumbers() {
        DUE.sentence("Joining", "the operands of i, and the operand of j other than v, "
                + "have ranges without negative numbers");
        for (int v = 0; v < 3; v++) {
            OverflowGuards x = wide("d=a+b;e=d+c;");
            x.setRange(v, -1, MAX);
            same("-1 to MAX for " + v, x.coveredBy(0), NONE);
            same("kept for " + v, x.state(0), KEPT);
            x.setRange(v, MIN, MAX);
            same("MIN to MAX for " + v, x.coveredBy(0), NONE);
            x.setRange(v, 0, MAX);
            same("0 to MAX for " + v, x.coveredBy(0), 1);
            x.setRange(v, 1, MAX);
            same("1 to MAX for " + v, x.coveredBy(0), 1);
            x.setRange(v, MAX, MAX);
            same("MAX alone for " + v, x.coveredBy(0), 1);
        }
        OverflowGuards down = wide("d=a+_1;e=d+c;");
        down.setRange(0, MIN, MAX);
        same("a negative constant", down.coveredBy(0), NONE);
        covers("d=1+a;e=1+d;", 0, 1);
        // only the operands count: what v was before, and what j's result was, may be negative
        OverflowGuards before = wide("d=a+b;e=d+c;");
        before.setRange(3, MIN, MAX);
        before.setRange(4, MIN, MAX);
        same("negative results before", before.coveredBy(0), 1);
    }

    private static void atEveryExecution() {
        DUE.sentence("Joining", "at every execution of i and of j in the analysis");
        for (int v = 0; v < 3; v++) {
            char letter = (char) ('a' + v);
            OverflowGuards x = wide("40{d=a+b;e=d+c;" + letter + "=" + letter + "-1;}");
            x.setRange(v, 39, MAX);
            same("0 at the last, " + letter, x.coveredBy(1), 2);
            x.setRange(v, 38, MAX);
            same("-1 at the last, " + letter, x.coveredBy(1), NONE);
            x = wide("40{d=a+b;e=d+c;" + letter + "=7;}");
            x.setRange(v, 0, MAX);
            same("0 at the first, " + letter, x.coveredBy(1), 2);
            x.setRange(v, -1, MAX);
            same("-1 at the first, " + letter, x.coveredBy(1), NONE);
        }
        covers("2{d=a+b;e=d+c;c=_1;c=5;}", 1, 2);
        covers("c=_1;c=5;2{d=a+b;e=d+c;a=_1;a=5;}b=_1;", 3, 4);
        // the second round ends at i, where the other operand of j is negative already
        OverflowGuards ends = wide("2{d=a+b;e=d+c;c=_1;b=9999*9999;b=b*21;a=b;}");
        DUE.yes("it ends at i", !ends.completes());
        same("negative at the last execution of i", ends.coveredBy(1), NONE);
        ends = wide("2{d=a+b;e=d+c;c=0;b=9999*9999;b=b*21;a=b;}");
        DUE.yes("it ends at i, too", !ends.completes());
        same("not negative at the last execution of i", ends.coveredBy(1), 2);
    }

    private static void atMostOneCover() {
        DUE.sentence("Joining", "There is at most one such j.");
        OverflowGuards x = wide("d=a+b;e=d+c;f=d+c;");
        same("the first of two", x.coveredBy(0), 1);
        same("not the second", x.coveredBy(1), NONE);
        x = wide("d=a+b;e=d+c;f=e+c;");
        same("the first of a row", x.coveredBy(0), 1);
        same("the second of a row", x.coveredBy(1), 2);
        same("the last of a row", x.state(2), KEPT);
        x = wide("a=b+c;" + "a=a+b;".repeat(29));
        for (int i = 0; i < 29; i++) {
            same("a row of thirty, " + i, x.coveredBy(i), i + 1);
        }
        same("the thirtieth", x.coveredBy(29), NONE);
    }

    // ---- Hoisting

    private static void state(String text, int i, int due) {
        same("state of " + i + " in " + text, wide(text).state(i), due);
    }

    private static void innermostLoop() {
        DUE.sentence("Hoisting", "is moved in front of the innermost loop in which it lies");
        state("d=d+a;", 0, KEPT);
        state("9{}d=d+a;9{}", 2, KEPT);
        state("9{d=d+a;}", 1, HOISTED);
        state("1{d=d+a;}", 1, HOISTED);
        state("9{9{d=d+a;}}", 2, HOISTED);
        same("in front of the inner one", wide("9{8{d=d+a;}}").checks(true), 9);
        same("in front of the outer one", wide("9{d=d+a;8{}}").checks(true), 1);
    }

    private static void sumOfItself() {
        DUE.sentence("Hoisting", "if it is a sum v = v + k (or v = k + v)");
        state("9{d=d+a;}", 1, HOISTED);
        state("9{d=a+d;}", 1, HOISTED);
        state("9{d=a+b;}", 1, KEPT);
        state("9{d=a-_9;}", 1, KEPT);
        state("9{d=d-_9;}", 1, KEPT);
        state("9{d=d*a;}", 1, KEPT);
        state("9{d=_2-d;}", 1, KEPT);
    }

    private static void hoistedCanFail() {
        DUE.sentence("Hoisting", "whose check can fail");
        OverflowGuards x = Due.with("9{d=d+a;}");
        // 100 + 9 * 238609283 = MAX
        x.setRange(0, 0, 238609283);
        same("up to MAX", x.state(1), DROPPED);
        x.setRange(0, 0, 238609284);
        same("over MAX", x.state(1), HOISTED);
        x.setRange(3, 0, 0);
        x.setRange(0, -238609294, 0);
        same("down over MIN", x.state(1), DROPPED);
        x.setRange(0, -238609295, 0);
        same("under MIN", x.state(1), HOISTED);
        state("9{d=d+0;}", 1, DROPPED);
        state("9{d=d+1;}", 1, HOISTED);
        state("9{d=d+_1;}", 1, DROPPED);
    }

    private static void notJoinedNorCovering() {
        DUE.sentence("Hoisting", "which is not joined and does not cover another one");
        state("9{d=d+a;e=d+b;}", 1, JOINED);
        state("9{d=d+a;e=d-b;}", 1, HOISTED);
        state("9{d=a+b;e=e+d;}", 2, KEPT);
        state("9{d=a+b;d=d+c;}", 2, KEPT);
        state("d=a+b;9{e=e+d;}", 2, HOISTED);
    }

    private static void otherThanItself() {
        DUE.sentence("Hoisting", "k is a constant or a variable other than v");
        state("9{d=d+d;}", 1, KEPT);
        state("9{d=d+c;}", 1, HOISTED);
        state("9{d=d+1;}", 1, HOISTED);
        state("9{d=9999+d;}", 1, HOISTED);
        OverflowGuards down = Due.with("9{d=d+_9999;}");
        down.setRange(3, MIN, 0);
        same("a negative constant", down.state(1), HOISTED);
    }

    private static void notTheResultInThatLoop() {
        DUE.sentence("Hoisting", "neither v nor k is the result of any other instruction in that loop, "
                + "loops inside included; and i lies directly in the loop");
        for (String changed : new String[] {"d=d;", "a=a;", "a=1;", "d=g-h;", "a=g*h;"}) {
            state("9{" + changed + "d=d+a;}", 2, KEPT);
            state("9{d=d+a;" + changed + "}", 1, KEPT);
            state("9{" + changed + "f=1;d=d+a;f=1;}", 3, KEPT);
            state("9{f=1;d=d+a;f=1;" + changed + "}", 2, KEPT);
            state("9{2{" + changed + "}d=d+a;}", 4, KEPT);
            state("9{d=d+a;2{" + changed + "}}", 1, KEPT);
            state("9{d=d+a;2{}2{f=1;" + changed + "}}", 1, KEPT);
        }
        for (String changed : new String[] {"d=c;", "a=c;"}) {
            state(changed + "9{d=d+a;}", 2, HOISTED);
            state("9{d=d+a;}" + changed, 1, HOISTED);
            state("9{" + changed + "2{d=d+a;}}", 3, HOISTED);
            state("9{2{d=d+a;}" + changed + "}", 2, HOISTED);
            state("9{2{" + changed + "}2{d=d+a;}}", 5, HOISTED);
        }
        state("9{d=d+a;d=d+a;}", 1, JOINED);
        state("9{d=d+a;d=d+a;}", 2, KEPT);
        state("9{e=d;f=a;d=d+a;e=d;f=a;}", 3, HOISTED);
        // a loop's count is no variable: 3 is not d, 1 is not b
        state("3{d=d+a;3{}}", 1, HOISTED);
        state("9{1{}d=d+b;1{}}", 3, HOISTED);
        // a dead instruction is one of the loop, too
        state("9{d=d+a;e=9999*9999;e=e*e;a=1;}", 1, KEPT);
        state("9{d=d+a;e=9999*9999;e=e*e;f=1;}", 1, HOISTED);
    }

    // ---- Runs

    private static void allChecksInAPlainRun() {
        DUE.sentence("Runs", "A plain run executes the program with the inputs and all checks.");
        OverflowGuards x = Due.with("a=b;40{40{c=c+1;d=d-1;e=e*1;f=1;}}");
        same("1600 times three", x.checks(false), 4800);
        same("all dropped", x.checks(true), 0);
        x.setInput(1, 100);
        same("with the inputs", x.result(0, false), 100);
    }

    private static void aheadOf(int n, int v, int k, boolean isIn) {
        OverflowGuards x = Due.with(n + "{d=d+a;}");
        x.setRange(0, MIN, MAX);
        x.setRange(3, MIN, MAX);
        x.setInput(0, k);
        x.setInput(3, v);
        String what = v + " + " + n + " * " + k;
        same(what + " hoisted", x.state(1), HOISTED);
        same(what + " checks", x.checks(true), isIn ? 1 : 1 + n);
        same(what + " plain checks", x.checks(false), n);
        same(what + " failure", x.failure(true), isIn ? NONE : 1);
        same(what + " value", x.result(3, true), isIn ? v + n * k : v + (n - 1) * k);
    }

    private static void checkedAhead() {
        DUE.sentence("Runs", "a check is done whether v + n * k (with the present values) is in the int "
                + "range; if it is, the instruction has no checks while the loop is executed this time, "
                + "otherwise it is checked each time");
        aheadOf(9, 1, 238609294, true);
        aheadOf(9, 2, 238609294, false);
        aheadOf(9, -2, -238609294, true);
        aheadOf(9, -3, -238609294, false);
        aheadOf(1, MAX - 5, 5, true);
        aheadOf(1, MAX - 4, 5, false);
        aheadOf(1, MIN, -1, false);
        aheadOf(1, MIN + 1, -1, true);
        aheadOf(40, 7, 53687091, true);
        aheadOf(40, 8, 53687091, false);
        aheadOf(40, -8, -53687091, true);
        aheadOf(40, -9, -53687091, false);
        aheadOf(40, MAX, 0, true);
        aheadOf(40, MIN, 0, true);
        aheadOf(2, MIN, MAX, true);
        // 40 * k leaves the int range, v + 40 * k does not
        aheadOf(40, MIN, 107374182, true);
        // n * k is not taken as an int: 32 * 2^27 would be 0
        OverflowGuards x = Due.with("32{d=d+a;}");
        x.setRange(0, 0, MAX);
        x.setInput(0, 1 << 27);
        same("32 * 2^27 is checked each time", x.checks(true), 1 + 16);
        same("and fails", x.failure(true), 1);
    }

    private static void eachTimeWhenReached() {
        DUE.sentence("Runs", "at a loop begin, each time when it is reached");
        OverflowGuards x = Due.with("2{3{d=d+a;}}");
        x.setRange(0, 0, MAX);
        same("twice", x.checks(true), 2);
        x.setInput(0, 357913941);
        same("6 * 357913941 = MAX - 1", x.checks(true), 2);
        x.setInput(0, 357913942);
        // free the first time, checked three times the second time, the last of them fails
        same("6 * 357913942 > MAX", x.checks(true), 1 + 1 + 3);
        same("it fails", x.failure(true), 2);
        same("with its value before", x.result(3, true), 5 * 357913942);
        x = Due.with("2{a=a*b;3{d=d+a;}}");
        x.setRange(0, 0, MAX);
        x.setInput(0, 1 << 20);
        x.setInput(1, 40);
        // the second time k is 40 * 40 * 2^20, and the second sum with it fails
        same("the present values", x.checks(true), 1 + 1 + 1 + 1 + 2);
        same("it fails, too", x.failure(true), 3);
        same("40 loops in 40", wide("40{40{d=d+g;}}").checks(true), 40);
    }

    private static void eachHoistedOne() {
        DUE.sentence("Runs", "for each hoisted instruction that lies directly in the loop");
        OverflowGuards x = wide("7{d=d+a;e=b+e;f=f+1;}");
        same("three", x.states(HOISTED), 3);
        same("three checks", x.checks(true), 3);
        same("21 checks", x.checks(false), 21);
        x.setInput(3, MAX);
        x.setInput(0, 1);
        same("one of them is checked each time", x.checks(true), 3 + 1);
        same("none", wide("7{2{}}").checks(true), 0);
        same("those of the inner loop", wide("7{e=e+1;2{d=d+a;f=f+a;}}").checks(true), 1 + 7 * 2);
    }

    private static void deadAndDroppedHaveNoChecks() {
        DUE.sentence("Runs", "Dead and dropped instructions have no checks.");
        OverflowGuards x = Due.with("c=a+b;d=a-b;e=a*b;");
        same("dropped", x.checks(true), 0);
        same("plain", x.checks(false), 3);
        x.setRange(0, MAX, MAX);
        x.setRange(1, 1, 1);
        same("dead behind a failure", x.states(0), 2);
        same("the failing check alone", x.checks(true), 1);
        same("plain, the failing check alone", x.checks(false), 1);
    }

    private static OverflowGuards sums(String text, int a, int b, int c) {
        OverflowGuards x = wide(text);
        x.setInput(0, a);
        x.setInput(1, b);
        x.setInput(2, c);
        return x;
    }

    private static void joinedHasNoCheck() {
        DUE.sentence("Runs",
                "A joined instruction has no check; its exact result is kept as the value of v.");
        OverflowGuards x = sums("d=a+b;e=d+c;", MAX, 0, 0);
        same("up to MAX", x.failure(true), NONE);
        same("e", x.result(4, true), MAX);
        same("one check", x.checks(true), 1);
        same("two checks", x.checks(false), 2);
        // as an int the sum of a and b would be negative, and adding c would not fail
        x = sums("d=a+b;e=d+c;", MAX, 1, 0);
        same("MAX + 1 fails", x.failure(true), 0);
        same("at the covering check", x.checks(true), 1);
        x = sums("d=a+b;e=d+c;", MAX, MAX, MAX);
        same("three times MAX fails", x.failure(true), 0);
        x = sums("d=a+b;d=d+c;d=d+a;d=d+b;", MAX, MAX, MAX);
        same("a row fails at its first", x.failure(true), 0);
        same("with one check", x.checks(true), 1);
        x = sums("a=a+a;".repeat(30), 1, 0, 0);
        same("a + a is not covered", x.checks(true), 30);
        x = sums("d=a+b;" + "d=d+c;".repeat(29), 1, 1, 1);
        same("thirty sums", x.result(3, true), 31);
        same("one check for thirty sums", x.checks(true), 1);
        x = sums("d=a+b;" + "d=d+c;".repeat(29), MAX, MAX, MAX);
        same("thirty-one times MAX", x.failure(true), 0);
    }

    private static void coveringCheck() {
        DUE.sentence("Runs", "Kept ones are checked; the check of an instruction that covers another one "
                + "fails if its exact result is not in the int range.");
        OverflowGuards x = sums("d=a+b;e=d+c;", MAX - 2, 1, 1);
        same("MAX", x.failure(true), NONE);
        same("its value", x.result(4, true), MAX);
        x = sums("d=a+b;e=d+c;", MAX - 2, 1, 2);
        same("MAX + 1", x.failure(true), 1);
        same("the covered result stands", x.result(3, true), MAX - 1);
        same("v of the cover is not changed", x.result(4, true), 0);
        x = sums("e=a+b;", MAX, 1, 0);
        same("kept", x.failure(true), 0);
        same("one check", x.checks(true), 1);
    }

    private static void outcomeOfThePlainRun() {
        DUE.sentence("Runs", "If a check of an instruction fails, the optimized run ends, "
                + "and its outcome is that of the plain run.");
        // the optimized run notices it at 4 only, when f and g have been changed already
        OverflowGuards x = sums("h=3;d=a+b;f=7;g=8;e=d+c;", MAX, 1, 5);
        same("joined over two", x.coveredBy(1), 4);
        for (int mode = 0; mode < 2; mode++) {
            boolean optimized = mode == 1;
            same("failure", x.failure(optimized), 1);
            int[] values = {MAX, 1, 5, 0, 0, 0, 0, 3};
            for (int v = 0; v < 8; v++) {
                same("value " + v, x.result(v, optimized), values[v]);
            }
            same("checks", x.checks(optimized), 1);
        }
    }

    private static void outcome() {
        DUE.sentence("Runs", "the number of the instruction at which it has failed, or NONE, "
                + "and of the values of all variables at its end");
        OverflowGuards x = new OverflowGuards();
        for (int v = 0; v < 8; v++) {
            x.setInput(v, 10 + v);
        }
        for (int mode = 0; mode < 2; mode++) {
            same("nothing fails without instructions", x.failure(mode == 1), NONE);
            for (int v = 0; v < 8; v++) {
                same("the inputs stay", x.result(v, mode == 1), 10 + v);
            }
        }
        x = wide("b=1;".repeat(29) + "c=a+b;");
        x.setInput(0, MAX);
        same("the last of thirty", x.failure(false), 29);
        same("the last of thirty, optimized", x.failure(true), 29);
        x = wide("c=a+b;" + "b=1;".repeat(29));
        x.setInput(0, MAX);
        x.setInput(1, 1);
        same("the first of thirty", x.failure(false), 0);
        same("the first of thirty, optimized", x.failure(true), 0);
    }

    private static void numberOfChecks() {
        DUE.sentence("Runs", "how many checks it has done, the failed one included; "
                + "for an optimized run the checks at loop begins are included");
        OverflowGuards x = wide("c=a+b;d=a-_1;");
        x.setInput(0, MAX);
        same("the second fails, plain", x.checks(false), 2);
        same("the second fails, optimized", x.checks(true), 2);
        x.setInput(1, 1);
        same("the first fails, plain", x.checks(false), 1);
        same("the first fails, optimized", x.checks(true), 1);
        x = wide("3{d=d+a;}c=a*b;");
        x.setInput(0, 1 << 16);
        x.setInput(1, 1 << 15);
        same("one at the loop begin and the failed one", x.checks(true), 2);
        same("three and the failed one", x.checks(false), 4);
    }
}
