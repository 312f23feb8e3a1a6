import java.util.Random;

/** Random texts, many of them near the limits of 200 bytes and 30 instructions, against the Model. */
public final class TextTest {
    private static final String[] PARTS = {
        "a=1;", "b=c;", "h=_9999;", "a=b+c;", "d=d-12;", "e=0*f;", "2{", "40{", "04{", "}", "}", "}",
    };
    private static final String[] ODD = {
        "41{", "0{", "00{", "100{", "3", "a", "a=", "a=12345;", "a=_;", "i=1;", "{", ";", "=", "+", "_", "?",
    };

    public static void main(String[] args) {
        int texts = args.length > 0 ? Integer.parseInt(args[0]) : 20000;
        Due due = new Due();
        Random random = new Random(1);
        for (int n = 0; n < texts; n++) {
            String text = text(random);
            OverflowGuards x = new OverflowGuards();
            Model model = new Model();
            model.text.append(text);
            due.same("parse of " + text, Due.parsed(x, text), model.parse());
            due.same("instructions of " + text, x.instructions(), model.now.program().size());
            for (int i = 0; i < model.now.program().size(); i++) {
                Model.Ins ins = model.now.program().get(i);
                due.same("kind", x.instruction(i, 0), ins.kind());
                due.same("result", x.instruction(i, 1), ins.v());
                due.same("depth", x.instruction(i, 2), model.loopsRound(i).size());
                due.same("partner", x.instruction(i, 3), model.partner(i));
                due.same("first", x.operand(i, false), model.operand(ins.p()));
                due.same("second", x.operand(i, true), model.operand(ins.q()));
            }
        }
        due.end();
    }

    private static String text(Random random) {
        StringBuilder text = new StringBuilder();
        int parts = random.nextInt(34);
        int open = 0;
        for (int n = 0; n < parts; n++) {
            String part = PARTS[random.nextInt(PARTS.length)];
            boolean fits = part.equals("}") ? open > 0 : !part.endsWith("{") || open < 2;
            if (fits || random.nextInt(60) == 0) {
                text.append(part);
                open += part.equals("}") ? -1 : part.endsWith("{") ? 1 : 0;
            }
            if (random.nextInt(80) == 0) {
                text.append(ODD[random.nextInt(ODD.length)]);
            }
        }
        for (; open > 0 && random.nextInt(20) > 0; open--) {
            text.append('}');
        }
        if (random.nextInt(10) == 0) {
            text.setLength(random.nextInt(text.length() + 1));
        }
        text.setLength(Math.min(200, text.length()));
        return text.toString();
    }
}
