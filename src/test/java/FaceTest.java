import java.lang.reflect.Constructor;
import java.lang.reflect.Field;
import java.lang.reflect.Method;
import java.lang.reflect.Modifier;
import java.util.TreeSet;

/** The class has the face of the document, and nothing else that is not private. */
public final class FaceTest {
    private static final String INDEX = " throws IndexOutOfBoundsException";
    private static final String ARGUMENT = " throws IllegalArgumentException";
    private static final String BOTH = " throws IndexOutOfBoundsException, IllegalStateException";
    private static final String CONSTANT = "static final int ";
    private static final String[] FACE = {
        "int setWage(int, int) throws IndexOutOfBoundsException, IllegalArgumentException",
        "int setRate(int)" + ARGUMENT, "int buy(int)" + BOTH, "int sell(int)" + BOTH, "int drop(int)" + BOTH,
        "int touch(int, int)" + BOTH, "int payBack(int)" + BOTH,
        "int advance(int) throws IllegalArgumentException, IllegalStateException", "int tick()",
        "int owner(int)" + INDEX, "int holder(int)" + INDEX, "int holderByLog(int)" + INDEX,
        "int pageIn(int)" + INDEX, "int age(int)" + INDEX, "int free()", "int owns(int)" + INDEX,
        "int borrowed(int)" + INDEX, "int lent(int)" + INDEX, "int stateOf(int)" + INDEX,
        "int purse(int)" + INDEX, "int faults(int)" + INDEX, "int loans()", "boolean lasts(int)" + INDEX,
        "int partiesOf(int)" + INDEX, "int interest(int)" + INDEX, "int head()", "int requests()",
        "int requestAt(int)" + INDEX, "AlmsKernel()",
        CONSTANT + "NONE", CONSTANT + "AWAKE", CONSTANT + "WAITING", CONSTANT + "ASLEEP",
    };

    private FaceTest() {
    }

    public static void main(String[] args) {
        TreeSet<String> want = new TreeSet<>();
        for (String member : FACE) {
            want.add("public " + member);
        }
        Checks.due("the face", face().toString(), want.toString());
        Checks.due("the class", Modifier.toString(AlmsKernel.class.getModifiers()), "public final");
        Checks.due("what it extends", AlmsKernel.class.getSuperclass() == Object.class);
        Checks.due("what it implements", AlmsKernel.class.getInterfaces().length, 0);
        noPrivateMethodBearsAPublicName();
        staticFieldsAreFinal();
        Checks.end();
    }

    /** All members that are not private, with modifiers, types and what they throw. */
    private static TreeSet<String> face() {
        TreeSet<String> face = new TreeSet<>();
        for (Method method : AlmsKernel.class.getDeclaredMethods()) {
            if (!Modifier.isPrivate(method.getModifiers())) {
                face.add(modifiers(method.getModifiers()) + method.getReturnType().getSimpleName() + " "
                    + method.getName() + "(" + names(method.getParameterTypes()) + ")"
                    + thrown(method.getExceptionTypes()));
            }
        }
        for (Constructor<?> made : AlmsKernel.class.getDeclaredConstructors()) {
            face.add(modifiers(made.getModifiers()) + "AlmsKernel(" + names(made.getParameterTypes()) + ")"
                + thrown(made.getExceptionTypes()));
        }
        for (Field field : AlmsKernel.class.getDeclaredFields()) {
            if (!Modifier.isPrivate(field.getModifiers())) {
                face.add(modifiers(field.getModifiers()) + field.getType().getSimpleName() + " " + field.getName());
            }
        }
        return face;
    }

    private static String modifiers(int modifiers) {
        return modifiers == 0 ? "" : Modifier.toString(modifiers) + " ";
    }

    private static String thrown(Class<?>[] types) {
        return types.length == 0 ? "" : " throws " + names(types);
    }

    private static String names(Class<?>[] types) {
        StringBuilder text = new StringBuilder();
        for (Class<?> type : types) {
            text.append(text.length() == 0 ? "" : ", ").append(type.getSimpleName());
        }
        return text.toString();
    }

    private static void noPrivateMethodBearsAPublicName() {
        TreeSet<String> privateNames = new TreeSet<>();
        for (Method method : AlmsKernel.class.getDeclaredMethods()) {
            if (Modifier.isPrivate(method.getModifiers())) {
                privateNames.add(method.getName());
            }
        }
        for (Method method : AlmsKernel.class.getMethods()) {
            Checks.due("no private method is called " + method.getName(), !privateNames.contains(method.getName()));
        }
    }

    private static void staticFieldsAreFinal() {
        for (Field field : AlmsKernel.class.getDeclaredFields()) {
            if (Modifier.isStatic(field.getModifiers())) {
                Checks.due("final is " + field.getName(), Modifier.isFinal(field.getModifiers()));
            }
        }
    }
}
