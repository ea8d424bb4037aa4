import java.lang.reflect.Constructor;
import java.lang.reflect.Field;
import java.lang.reflect.Member;
import java.lang.reflect.Method;
import java.lang.reflect.Modifier;
import java.util.Arrays;
import java.util.TreeSet;

/** The class has the face of the document, and nothing else that is not private. */
public final class FaceTest {
    private static final String INDEX = " throws IndexOutOfBoundsException";
    private static final String ARGUMENT = " throws IllegalArgumentException";
    private static final String BOTH = " throws IndexOutOfBoundsException, IllegalStateException";
    private static final String[] FACE = {
        "int setWage(int, int) throws IndexOutOfBoundsException, IllegalArgumentException",
        "int setRate(int)" + ARGUMENT, "int buy(int)" + BOTH, "int sell(int)" + BOTH, "int drop(int)" + BOTH,
        "int touch(int, int)" + BOTH, "int payBack(int)" + BOTH,
        "int advance(int) throws IllegalArgumentException, IllegalStateException", "int tick()",
        "int owner(int)" + INDEX, "int holder(int)" + INDEX, "int holderByLog(int)" + INDEX,
        "int pageIn(int)" + INDEX, "int age(int)" + INDEX, "int free()", "int owns(int)" + INDEX,
        "int borrowed(int)" + INDEX, "int lent(int)" + INDEX, "int stateOf(int)" + INDEX,
        "int purse(int)" + INDEX, "int faults(int)" + INDEX, "int loans()", "boolean lasts(int)" + INDEX,
        "int partiesOf(int)" + INDEX, "int interest(int)" + INDEX, "int head()", "int requests()",
        "int requestAt(int)" + INDEX, "AlmsKernel()", "NONE", "AWAKE", "WAITING", "ASLEEP",
    };

    private FaceTest() {
    }

    public static void main(String[] args) {
        TreeSet<String> face = new TreeSet<>();
        TreeSet<String> privateNames = new TreeSet<>();
        for (Method method : AlmsKernel.class.getDeclaredMethods()) {
            if (isPrivate(method)) {
                privateNames.add(method.getName());
            } else {
                String start = method.getReturnType().getSimpleName() + " " + method.getName();
                face.add(start + names("(", method.getParameterTypes()) + ")"
                    + names(" throws ", method.getExceptionTypes()));
            }
        }
        for (Constructor<?> constructor : AlmsKernel.class.getDeclaredConstructors()) {
            face.add("AlmsKernel" + names("(", constructor.getParameterTypes()) + ")"
                + names(" throws ", constructor.getExceptionTypes()));
        }
        for (Field field : AlmsKernel.class.getDeclaredFields()) {
            if (!isPrivate(field)) {
                face.add(field.getName());
            }
            if (Modifier.isStatic(field.getModifiers())) {
                Checks.due("final is " + field.getName(), Modifier.isFinal(field.getModifiers()));
            }
        }
        Checks.due("the face", face.toString(), new TreeSet<>(Arrays.asList(FACE)).toString());
        Checks.due("the class is public and final",
            Modifier.isPublic(AlmsKernel.class.getModifiers()) && Modifier.isFinal(AlmsKernel.class.getModifiers()));
        for (Method method : AlmsKernel.class.getMethods()) {
            Checks.due("no private method is called " + method.getName(), !privateNames.contains(method.getName()));
        }
        Checks.end();
    }

    private static boolean isPrivate(Member member) {
        return Modifier.isPrivate(member.getModifiers());
    }

    private static String names(String start, Class<?>[] types) {
        StringBuilder text = new StringBuilder();
        for (Class<?> type : types) {
            text.append(text.length() == 0 ? "" : ", ").append(type.getSimpleName());
        }
        return start.equals("(") ? start + text : types.length == 0 ? "" : start + text;
    }
}
