/** What the tests share: it counts answers that are not as due and prints each of them. */
final class Due {
    interface Call {
        long answer();
    }

    private static final int PRINTED = 50;
    private int wrong = 0;
    private int asked = 0;
    private int sentences = 0;
    private String place = "";

    /** What is asked from here on belongs to this sentence of the document. */
    void sentence(String where, String words) {
        sentences++;
        place = where + ", \"" + words + "\": ";
    }

    void same(String what, long got, long want) {
        asked++;
        if (got != want) {
            tell(what + " answered " + got + ", due is " + want);
        }
    }

    void sameDouble(String what, double got, double want) {
        asked++;
        if (Double.compare(got, want) != 0) {
            tell(what + " answered " + got + ", due is " + want);
        }
    }

    void yes(String what, boolean got) {
        same(what, got ? 1 : 0, 1);
    }

    /** The call must throw exactly this class, and the digest must stay as it was. */
    void refuses(String what, OverflowGuards x, Class<? extends Exception> want, Call call) {
        long before = x.digest();
        String got = thrownBy(call);
        asked++;
        if (!got.equals(want.getSimpleName())) {
            tell(what + " threw " + got + ", due is " + want.getSimpleName());
        }
        same("digest after " + what, x.digest(), before);
    }

    void takes(String what, Call call) {
        String got = thrownBy(call);
        asked++;
        if (!got.equals("nothing")) {
            tell(what + " threw " + got + ", due is an answer");
        }
    }

    static String thrownBy(Call call) {
        try {
            call.answer();
            return "nothing";
        } catch (RuntimeException e) {
            return e.getClass().getSimpleName();
        }
    }

    private void tell(String line) {
        wrong++;
        if (wrong <= PRINTED) {
            System.out.println(place + line);
        }
    }

    void end() {
        if (sentences > 0) {
            System.out.println(sentences + " sentences of the document");
        }
        System.out.println(wrong == 0
                ? "all " + asked + " answers are as due"
                : wrong + " of " + asked + " answers are not as due");
        if (wrong != 0) {
            System.exit(1);
        }
    }

    int wrong() {
        return wrong;
    }

    int asked() {
        return asked;
    }

    static void write(OverflowGuards x, String text) {
        x.clearText();
        for (int i = 0; i < text.length(); i++) {
            x.append(text.charAt(i));
        }
    }

    static int parsed(OverflowGuards x, String text) {
        write(x, text);
        return x.parse();
    }

    /** A new object with this program. */
    static OverflowGuards with(String text) {
        OverflowGuards x = new OverflowGuards();
        int answer = parsed(x, text);
        if (answer < 0) {
            throw new IllegalArgumentException(text + " has an error: " + answer);
        }
        return x;
    }
}
