import java.lang.reflect.InvocationTargetException;
import java.lang.reflect.Method;

/** Each method of the face by a number, so that tests can go through all of them, or by its name. */
final class Calls {
    static final int COUNT = 26;
    static final int APPEND = 0;
    static final int CLEAR_TEXT = 1;
    static final int PARSE = 2;
    static final int UNDO = 25;

    private Calls() {
    }

    static boolean isUndoable(int which) {
        return which == 2 || which == 3 || which == 4 || which == 6;
    }

    static long make(OverflowGuards x, int which, int a, int b, int c) {
        return switch (which) {
            case 0 -> x.append(a);
            case 1 -> x.clearText();
            case 2 -> x.parse();
            case 3 -> x.setRange(a, b, c);
            case 4 -> x.setInput(a, b);
            case 5 -> x.input(a, b);
            case 6 -> x.remove(a);
            case 7 -> x.instructions();
            case 8 -> x.digest();
            case 9 -> x.instruction(a, b);
            case 10 -> x.operand(a, b > 0);
            case 11 -> x.state(a);
            case 12 -> x.states(a);
            case 13 -> x.coveredBy(a);
            case 14 -> x.range(a, b > 0);
            case 15 -> x.finalRange(a, b > 0);
            case 16 -> x.completes() ? 1 : 0;
            case 17 -> x.failure(a > 0);
            case 18 -> x.result(a, b > 0);
            case 19 -> x.checks(a > 0);
            case 20 -> x.executed();
            case 21 -> Double.doubleToLongBits(x.saving());
            case 22 -> x.openWith(a, b, c);
            case 23 -> x.safePower(a);
            case 24 -> x.failingInput(a);
            default -> x.undo();
        };
    }

    /** What a call written as "setRange(0, 1, 0)" answers: a number, true, false, or "throws" and a name. */
    static String answer(OverflowGuards x, String call) {
        String name = call.substring(0, call.indexOf('('));
        String inside = call.substring(call.indexOf('(') + 1, call.lastIndexOf(')')).strip();
        String[] words = inside.isEmpty() ? new String[0] : inside.split(", *");
        try {
            for (Method method : OverflowGuards.class.getMethods()) {
                if (method.getName().equals(name) && method.getParameterCount() == words.length) {
                    return "" + method.invoke(x, arguments(method, words));
                }
            }
            return "is no call of the face";
        } catch (InvocationTargetException e) {
            return "throws " + e.getCause().getClass().getSimpleName();
        } catch (IllegalAccessException e) {
            return "cannot be called";
        }
    }

    private static Object[] arguments(Method method, String[] words) {
        Object[] all = new Object[words.length];
        for (int n = 0; n < words.length; n++) {
            boolean isFlag = method.getParameterTypes()[n] == boolean.class;
            all[n] = isFlag ? (Object) Boolean.valueOf(words[n]) : (Object) Integer.valueOf(words[n]);
        }
        return all;
    }
}
