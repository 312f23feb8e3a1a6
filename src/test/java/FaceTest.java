import java.lang.reflect.Constructor;
import java.lang.reflect.Field;
import java.lang.reflect.Member;
import java.lang.reflect.Method;
import java.lang.reflect.Modifier;
import java.util.ArrayList;
import java.util.Arrays;
import java.util.Collections;
import java.util.List;

/** The class shows the document's public face, all of it and nothing beside it. */
public final class FaceTest {
    private static final String[] FACE = {
        "int NONE", "OverflowGuards()",
        "int append(int)", "int clearText()", "int parse()", "int setRange(int,int,int)",
        "int setInput(int,int)", "int input(int,int)", "int remove(int)", "int instructions()",
        "int instruction(int,int)", "int operand(int,boolean)", "int state(int)",
        "int states(int)", "int coveredBy(int)", "long range(int,boolean)",
        "int finalRange(int,boolean)", "boolean completes()", "int failure(boolean)",
        "int result(int,boolean)", "int checks(boolean)", "int executed()", "double saving()",
        "int openWith(int,int,int)", "int safePower(int)", "int failingInput(int)", "int undo()",
        "long digest()",
    };

    public static void main(String[] args) {
        Due due = new Due();
        List<String> found = new ArrayList<>();
        for (Field field : OverflowGuards.class.getDeclaredFields()) {
            if (isShown(field)) {
                found.add(field.getType() + " " + field.getName());
            }
            due.yes(field + " is no changing static state",
                    !Modifier.isStatic(field.getModifiers()) || Modifier.isFinal(field.getModifiers()));
        }
        for (Constructor<?> constructor : OverflowGuards.class.getDeclaredConstructors()) {
            if (isShown(constructor)) {
                found.add("OverflowGuards(" + names(constructor.getParameterTypes()) + ")");
            }
        }
        for (Method method : OverflowGuards.class.getDeclaredMethods()) {
            if (isShown(method)) {
                found.add(method.getReturnType() + " " + method.getName()
                        + "(" + names(method.getParameterTypes()) + ")");
            }
        }
        List<String> wanted = new ArrayList<>(Arrays.asList(FACE));
        Collections.sort(found);
        Collections.sort(wanted);
        due.yes("the face is " + found + ", due is " + wanted, found.equals(wanted));
        due.yes("the class is public and final",
                Modifier.isPublic(OverflowGuards.class.getModifiers())
                        && Modifier.isFinal(OverflowGuards.class.getModifiers()));
        due.same("NONE", OverflowGuards.NONE, -1);
        due.end();
    }

    private static boolean isShown(Member member) {
        return !Modifier.isPrivate(member.getModifiers()) && !member.isSynthetic();
    }

    private static String names(Class<?>[] types) {
        StringBuilder text = new StringBuilder();
        for (Class<?> type : types) {
            text.append(text.length() == 0 ? "" : ",").append(type);
        }
        return text.toString();
    }
}
