/** Boundary cases of the document's 'Terms': Program text; and of promise 4, parse. */
public final class BoundaryTextTest {
    private static final int NONE = OverflowGuards.NONE;
    private static final String LETTERS = "abcdefgh";
    private static final String DIGITS = "0123456789";
    private static final String SIGNS = "+-*";
    private static final Due DUE = new Due();

    public static void main(String[] args) {
        atMostTwoHundred();
        possiblyNone();
        assignments();
        loops();
        operands();
        counts();
        noSpaces();
        everyByteAtEveryPlace();
        endsTooEarly();
        countsThatAreNotOneToForty();
        fifthAndThirdDigits();
        loopInsideTwoOthers();
        thirtyFirst();
        theFirstByteThatCannotStand();
        parseKeepsTextAndInputs();
        parseWithAnErrorChangesNothing();
        DUE.end();
    }

    private static void same(String what, long got, long want) {
        DUE.same(what, got, want);
    }

    private static void good(String text, int instructions) {
        OverflowGuards x = new OverflowGuards();
        same("parse of " + text, Due.parsed(x, text), instructions);
        same("instructions of " + text, x.instructions(), instructions);
    }

    private static void errorAt(String text, int position) {
        OverflowGuards x = Due.with("b=7;");
        Due.write(x, text);
        long before = x.digest();
        same("parse of " + text, x.parse(), -10 - position);
        same("nothing changes with " + text, x.digest(), before);
    }

    private static void atMostTwoHundred() {
        DUE.sentence("Program text", "The text has at most 200 bytes");
        String text = "a=_9999+_9999;".repeat(14) + "h=1;";
        OverflowGuards x = new OverflowGuards();
        for (int i = 0; i < text.length(); i++) {
            same("byte " + (i + 1), x.append(text.charAt(i)), i + 1);
        }
        DUE.refuses("byte 201", x, IllegalStateException.class, () -> x.append(';'));
        same("200 bytes are a program", x.parse(), 15);
        same("the last of them counts", x.result(7, false), 1);
        same("200 bytes", x.clearText(), 200);
        errorAt("a=_9999+_9999;".repeat(14) + "h=12", 200);
        errorAt("a=_9999+_9999;".repeat(14) + "h=1?", 199);
    }

    private static void possiblyNone() {
        DUE.sentence("Program text", "a sequence of statements, possibly none");
        good("", 0);
        good("a=1;", 1);
        good("2{}", 2);
        good("2{3{}}", 4);
        OverflowGuards x = Due.with("a=1;b=2;");
        same("an empty text makes an empty program", Due.parsed(x, ""), 0);
        same("nothing is left", x.result(0, false), 0);
    }

    private static void assignments() {
        DUE.sentence("Program text", "a letter a to h, \"=\", an operand, optionally \"+\", \"-\" or \"*\" "
                + "and another operand, and a semicolon");
        good("a=h;", 1);
        good("h=a+h;", 1);
        good("h=a-1;", 1);
        good("h=_1*a;", 1);
        errorAt("=a;", 0);
        errorAt("aa;", 1);
        errorAt("a=;", 2);
        errorAt("a=b+;", 4);
        errorAt("a=+b;", 2);
        errorAt("a=b++c;", 4);
        errorAt("a=b+c+d;", 5);
        errorAt("a=b/c;", 3);
        errorAt("a=bc;", 3);
        errorAt("a=b;;", 4);
        errorAt("a=b+c}", 5);
        errorAt("a+=b;", 1);
    }

    private static void loops() {
        DUE.sentence("Program text", "or a count, \"{\", statements, and \"}\"");
        good("2{a=1;b=2;}", 4);
        errorAt("{}", 0);
        errorAt("a{}", 1);
        errorAt("2}", 1);
        errorAt("2{}}", 3);
        errorAt("}", 0);
        errorAt("a=1;}", 4);
        errorAt("2{};", 3);
        errorAt("2{{}}", 2);
        errorAt("2{", 2);
        errorAt("2{3{}", 5);
        OverflowGuards x = Due.with("2{a=1;3{}}4{}");
        int[] partners = {4, NONE, 3, 2, 0, 6, 5};
        for (int i = 0; i < partners.length; i++) {
            same("partner of " + i, x.instruction(i, 3), partners[i]);
        }
    }

    private static void operands() {
        DUE.sentence("Program text", "An operand is a letter a to h, or an optional \"_\" (a minus sign) "
                + "and one to four digits.");
        String[] texts = {"0", "9", "00", "10", "007", "0000", "9999", "_0", "_1", "_0009", "_9999", "a", "h"};
        int[] due = {20000, 20009, 20000, 20010, 20007, 20000, 29999, 20000, 19999, 19991, 10001, 0, 7};
        for (int n = 0; n < texts.length; n++) {
            OverflowGuards x = Due.with("a=" + texts[n] + "-" + texts[n] + ";");
            same("first " + texts[n], x.operand(0, false), due[n]);
            same("second " + texts[n], x.operand(0, true), due[n]);
        }
        errorAt("a=_;", 3);
        errorAt("a=__1;", 3);
        errorAt("a=_a;", 3);
        errorAt("a=1_;", 3);
        errorAt("a=-1;", 2);
        errorAt("a=b+_;", 5);
        errorAt("a=b+-1;", 4);
        errorAt("a=1a;", 3);
        errorAt("a=a1;", 3);
        errorAt("a=i;", 2);
    }

    private static void counts() {
        DUE.sentence("Program text", "A count has one or two digits.");
        OverflowGuards x = new OverflowGuards();
        for (int n = 1; n <= 40; n++) {
            same("parse of " + n, Due.parsed(x, n + "{}"), 2);
            same("count " + n, x.instruction(0, 1), n);
        }
        for (int n = 1; n <= 9; n++) {
            same("parse of 0" + n, Due.parsed(x, "0" + n + "{}"), 2);
            same("count 0" + n, x.instruction(0, 1), n);
        }
        errorAt("{}", 0);
        errorAt("001{}", 2);
        errorAt("_1{}", 0);
    }

    private static void noSpaces() {
        DUE.sentence("Program text", "There are no spaces.");
        String text = "a=b+_12;12{c=3;}";
        for (int at = 0; at <= text.length(); at++) {
            errorAt(text.substring(0, at) + " " + text.substring(at), at);
        }
        errorAt("a=1;\n", 4);
        errorAt("a=1;\t", 4);
    }

    /** Which bytes can stand behind a text: each is tried with a byte behind it that never stands. */
    private static void stand(String text, String allowed) {
        for (int value = 0; value < 128; value++) {
            OverflowGuards x = new OverflowGuards();
            Due.write(x, text);
            x.append(value);
            x.append('?');
            boolean stands = allowed.indexOf((char) value) >= 0;
            same("byte " + value + " behind " + text, x.parse(), -10 - text.length() - (stands ? 1 : 0));
        }
    }

    private static void everyByteAtEveryPlace() {
        DUE.sentence("Program text",
                "The syntax error position is the index of the first byte that cannot stand where it stands");
        // a count 0 is told at its first digit, so "0?" has its error there
        String begins = LETTERS + "123456789";
        stand("", begins);
        stand("a=1;", begins);
        stand("2{}", begins);
        stand("2{", begins + "}");
        stand("2{a=1;", begins + "}");
        stand("2{3{}", begins + "}");
        stand("2{3{", LETTERS + "}");
        stand("2{3{a=1;", LETTERS + "}");
        stand("a", "=");
        stand("h", "=");
        stand("a=", LETTERS + DIGITS + "_");
        stand("a=b", SIGNS + ";");
        stand("a=_", DIGITS);
        stand("a=1", DIGITS + SIGNS + ";");
        stand("a=_12", DIGITS + SIGNS + ";");
        stand("a=123", DIGITS + SIGNS + ";");
        stand("a=1234", SIGNS + ";");
        stand("a=_1234", SIGNS + ";");
        for (String sign : new String[] {"+", "-", "*"}) {
            String first = "a=b" + sign;
            stand(first, LETTERS + DIGITS + "_");
            stand(first + "c", ";");
            stand(first + "_", DIGITS);
            stand(first + "1", DIGITS + ";");
            stand(first + "_12", DIGITS + ";");
            stand(first + "123", DIGITS + ";");
            stand(first + "1234", ";");
            stand(first + "_1234", ";");
        }
        stand("1", DIGITS + "{");
        stand("3", DIGITS + "{");
        stand("10", "{");
        stand("40", "{");
        stand("2{1", DIGITS + "{");
        stand("2{40", "{");
    }

    private static void endsTooEarly() {
        DUE.sentence("Program text", "or the length of the text if the text ends too early");
        String text = "a=b+_12;12{c=3;40{d=4*e;f=_9-9999;}}";
        good("", 0);
        good(text.substring(0, 8), 1);
        good(text, 8);
        for (int length = 1; length < text.length(); length++) {
            if (length != 8) {
                errorAt(text.substring(0, length), length);
            }
        }
    }

    private static void countsThatAreNotOneToForty() {
        DUE.sentence("Program text", "For a count that is not 1 to 40 it is the index of its first digit, "
                + "found when the count is complete, that is, when a byte that is no digit, "
                + "or the end of the text, follows it");
        for (String ahead : new String[] {"", "a=1;", "2{", "2{3{}"}) {
            for (int n = 0; n < 100; n++) {
                String count = ahead + n;
                boolean good = n >= 1 && n <= 40;
                errorAt(count, good ? count.length() : ahead.length());
                errorAt(count + "x", good ? count.length() : ahead.length());
                errorAt(count + ";", good ? count.length() : ahead.length());
                errorAt(count + "{", good ? count.length() + 1 : ahead.length());
                errorAt(count + "{?", good ? count.length() + 1 : ahead.length());
            }
            errorAt(ahead + "00", ahead.length());
            errorAt(ahead + "00{", ahead.length());
            // a third digit follows: the count is not complete, and the third digit cannot stand
            errorAt(ahead + "000", ahead.length() + 2);
            errorAt(ahead + "410", ahead.length() + 2);
            errorAt(ahead + "999{", ahead.length() + 2);
        }
    }

    private static void fifthAndThirdDigits() {
        DUE.sentence("Program text",
                "a fifth digit of an operand and a third one of a count cannot stand");
        good("a=1234;", 1);
        good("a=_1234*_1234;", 1);
        errorAt("a=12345;", 6);
        errorAt("a=12345", 6);
        errorAt("a=00000;", 6);
        errorAt("a=_12345;", 7);
        errorAt("a=b-12345;", 8);
        errorAt("a=b-_12345;", 9);
        good("12{}", 2);
        errorAt("123{}", 2);
        errorAt("123", 2);
        errorAt("012{}", 2);
        errorAt("2{123{}}", 4);
    }

    private static void loopInsideTwoOthers() {
        DUE.sentence("Program text", "the first digit of the count of a loop inside two others cannot stand");
        good("2{3{}}", 4);
        good("2{3{}4{}}5{}", 8);
        errorAt("2{3{4{}}}", 4);
        errorAt("2{3{40{}}}", 4);
        errorAt("2{3{41{}}}", 4);
        errorAt("2{3{4", 4);
        errorAt("2{3{}4{5", 7);
        errorAt("2{3{a=1;4{}}}", 8);
    }

    private static void thirtyFirst() {
        DUE.sentence("Program text", "the first byte of a 31st instruction cannot stand "
                + "(a loop end, \"}\", is an instruction, too)");
        String many = "a=1;".repeat(28);
        good(many + "b=2;c=3;", 30);
        good(many + "2{}", 30);
        good("2{" + many + "}", 30);
        good("2{}".repeat(15), 30);
        errorAt(many + "b=2;c=3;d=4;", 120);
        errorAt(many + "b=2;c=3;d", 120);
        errorAt(many + "b=2;c=3;2{}", 120);
        errorAt(many + "b=2;c=3;2", 120);
        errorAt(many + "b=2;c=3;0", 120);
        errorAt(many + "b=2;c=3;}", 120);
        errorAt(many + "b=2;2{}", 118);
        errorAt("2{" + many + "b=2;}", 118);
        errorAt("2{3{" + many + "}}", 116);
        errorAt("2{3{" + "a=1;".repeat(27) + "}}", 113);
        good("2{3{" + "a=1;".repeat(26) + "}}", 30);
        errorAt("2{}".repeat(15) + "a=1;", 45);
        // the thirtieth may be open yet: then the text ends too early
        errorAt(many + "b=2;2{", 118);
        errorAt("2{" + many + "b=2;", 118);
    }

    private static void theFirstByteThatCannotStand() {
        DUE.sentence("Program text", "the index of the first byte");
        errorAt("a=1;?a=12345;", 4);
        errorAt("41{}?", 0);
        errorAt("?41{}", 0);
        errorAt("a=12345;41{}", 6);
        errorAt("" + (char) 0, 0);
        errorAt("" + (char) 127, 0);
        errorAt("a=1;" + (char) 0, 4);
    }

    private static void parseKeepsTextAndInputs() {
        DUE.sentence("Promise 4", "The text and the inputs stay as they are.");
        OverflowGuards x = new OverflowGuards();
        x.setRange(0, -5, 5);
        x.setInput(0, -3);
        same("parse", Due.parsed(x, "a=1;"), 1);
        same("low end", x.input(0, 0), -5);
        same("high end", x.input(0, 1), 5);
        same("input", x.input(0, 2), -3);
        same("the text can be parsed again", x.parse(), 1);
        same("and has its length", x.clearText(), 4);
        same("the program stays without its text", x.instructions(), 1);
    }

    private static void parseWithAnErrorChangesNothing() {
        DUE.sentence("Promise 4", "-10 minus the syntax error position if there is a syntax error "
                + "(then nothing changes)");
        OverflowGuards x = Due.with("2{a=a+1;}b=2;");
        Due.write(x, "c=3;d=4;?");
        long before = x.digest();
        same("the error", x.parse(), -18);
        same("the digest", x.digest(), before);
        same("the program", x.instructions(), 4);
        same("a kind", x.instruction(0, 0), 4);
        same("a result", x.result(0, true), 2);
        same("one state is saved", x.undo(), 0);
        for (String open : new String[] {"2{", "2{3{", "2{3", "a=", "a=b+_", "a=1;".repeat(30) + "2{"}) {
            DUE.yes("an error of " + open, Due.parsed(x, open) < 0);
            same("nothing is open behind it", Due.parsed(x, "}"), -10);
            same("two loops can be opened behind it", Due.parsed(x, "2{3{}}"), 4);
            same("no depth is left", x.instruction(0, 2), 0);
            same("thirty instructions", Due.parsed(x, "a=1;".repeat(30)), 30);
        }
        Due.write(x, "?");
        same("the least position", x.parse(), -10);
        Due.write(x, "a=_9999+_9999;".repeat(14) + "h=12");
        same("the greatest position", x.parse(), -210);
    }
}
