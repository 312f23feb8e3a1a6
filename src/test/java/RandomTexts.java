import java.util.Random;

/** Program texts out of a fixed random source: sums above all, since they can be joined and hoisted. */
final class RandomTexts {
    private final Random random;

    RandomTexts(Random random) {
        this.random = random;
    }

    String program() {
        StringBuilder text = new StringBuilder();
        statements(text, 0, 2 + random.nextInt(9));
        return text.toString();
    }

    private void statements(StringBuilder text, int depth, int count) {
        for (int n = 0; n < count; n++) {
            if (depth < 2 && random.nextInt(5) == 0) {
                text.append(random.nextInt(6) == 0 ? 40 : 1 + random.nextInt(7)).append('{');
                statements(text, depth + 1, random.nextInt(5));
                text.append('}');
            } else {
                statement(text);
            }
        }
    }

    private void statement(StringBuilder text) {
        char v = letter();
        text.append(v).append('=');
        int kind = random.nextInt(10);
        if (kind == 0) {
            text.append(operand());
        } else if (kind <= 3) {
            String added = operand();
            text.append(random.nextInt(3) == 0 ? added + "+" + v : v + "+" + added);
        } else if (kind <= 7) {
            text.append(operand()).append('+').append(operand());
        } else {
            text.append(operand()).append(kind == 8 ? '-' : '*').append(operand());
        }
        text.append(';');
    }

    private char letter() {
        return (char) ('a' + random.nextInt(random.nextBoolean() ? 5 : 8));
    }

    private String operand() {
        if (random.nextInt(6) > 0) {
            return "" + letter();
        }
        return (random.nextInt(4) == 0 ? "_" : "") + random.nextInt(random.nextBoolean() ? 10 : 10000);
    }

    /** One byte is put in, taken out or changed, or the text is cut. */
    String spoiled(String text) {
        String signs = "abhi=+-*;_0149{}, \0\177";
        char sign = signs.charAt(random.nextInt(signs.length()));
        int at = random.nextInt(text.length() + 1);
        return switch (random.nextInt(4)) {
            case 0 -> text.substring(0, at) + sign + text.substring(at);
            case 1 -> text.substring(0, at) + sign + text.substring(Math.min(at + 1, text.length()));
            case 2 -> text.substring(0, at) + text.substring(Math.min(at + 1, text.length()));
            default -> text.substring(0, at);
        };
    }
}
