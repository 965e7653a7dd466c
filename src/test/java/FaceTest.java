import java.lang.reflect.Constructor;
import java.lang.reflect.Field;
import java.lang.reflect.Method;
import java.lang.reflect.Modifier;
import java.util.Arrays;
import java.util.HashSet;
import java.util.Set;
import java.util.TreeSet;

/** The public face of the document, and rule 1 of the language. */
public final class FaceTest {
    private static final String[] FACE = {
        "int announce(int, int) IllegalArgumentException UnsupportedOperationException",
        "int line(int, int, int) NoSuchElementException IllegalArgumentException IllegalStateException",
        "int arrive(int, int, boolean) NoSuchElementException IllegalArgumentException IllegalStateException",
        "void accept(int, int) NoSuchElementException IllegalArgumentException IllegalStateException",
        "void right(int, boolean) IllegalArgumentException",
        "void tolerance(int, int, int) NoSuchElementException IllegalArgumentException IllegalStateException",
        "void wanted(int, int, int) NoSuchElementException IllegalArgumentException IllegalStateException",
        "int count(int, int, int, int, int) NoSuchElementException IllegalArgumentException UnsupportedOperationException",
        "int damaged(int, int) NoSuchElementException IllegalArgumentException IllegalStateException",
        "int sample(int, int, boolean) NoSuchElementException IllegalStateException",
        "int date(int, int) NoSuchElementException IllegalArgumentException IllegalStateException",
        "int take(int, int) NoSuchElementException IllegalArgumentException IllegalStateException",
        "int label(int) NoSuchElementException",
        "int again(int) NoSuchElementException IllegalStateException",
        "int close(int, int) NoSuchElementException IllegalStateException",
        "int closeAll(int) NoSuchElementException IllegalStateException",
        "void day(int) IllegalArgumentException IllegalStateException",
        "int differ(int, int) NoSuchElementException IllegalArgumentException",
        "int claim(int, int) NoSuchElementException IllegalArgumentException",
        "int unit(int, int) NoSuchElementException IllegalArgumentException",
        "int told(int, int, int) NoSuchElementException IllegalArgumentException",
        "int state(int, int) NoSuchElementException IllegalArgumentException",
        "int count(int)",
    };

    public static void main(String[] args) {
        methods();
        constructorsAndFields();
        names();
        Check.end();
    }

    private static String written(Method method) {
        StringBuilder text = new StringBuilder();
        text.append(method.getReturnType().getSimpleName()).append(' ').append(method.getName()).append('(');
        String between = "";
        for (Class<?> type : method.getParameterTypes()) {
            text.append(between).append(type.getSimpleName());
            between = ", ";
        }
        text.append(')');
        for (Class<?> type : method.getExceptionTypes()) {
            text.append(' ').append(type.getSimpleName());
        }
        return text.toString();
    }

    private static void methods() {
        Set<String> got = new TreeSet<>();
        for (Method method : ReceiveSteps.class.getDeclaredMethods()) {
            if (!Modifier.isPrivate(method.getModifiers())) {
                got.add(written(method));
            }
        }
        Set<String> want = new TreeSet<>(Arrays.asList(FACE));
        if (!got.equals(want)) {
            Check.tell("the face is " + got + ", due is " + want);
        }
    }

    private static void constructorsAndFields() {
        int modifiers = ReceiveSteps.class.getModifiers();
        Check.due("the class is public and final", Modifier.isPublic(modifiers) && Modifier.isFinal(modifiers) ? 1 : 0, 1);
        Constructor<?>[] constructors = ReceiveSteps.class.getDeclaredConstructors();
        Check.due("constructors", constructors.length, 1);
        Check.due("parameters of it", constructors[0].getParameterCount(), 0);
        Check.due("it is public", Modifier.isPublic(constructors[0].getModifiers()) ? 1 : 0, 1);
        for (Field field : ReceiveSteps.class.getDeclaredFields()) {
            if (!Modifier.isPrivate(field.getModifiers())) {
                Check.tell("a field that is not private: " + field);
            }
        }
        for (Class<?> inside : ReceiveSteps.class.getDeclaredClasses()) {
            if (!Modifier.isStatic(inside.getModifiers()) || Modifier.isPublic(inside.getModifiers())) {
                Check.tell("a class inside is public or not static: " + inside);
            }
        }
    }

    private static void names() {
        Set<String> open = new HashSet<>();
        for (Method method : ReceiveSteps.class.getMethods()) {
            open.add(method.getName());
        }
        for (Method method : ReceiveSteps.class.getDeclaredMethods()) {
            if (!Modifier.isPublic(method.getModifiers()) && open.contains(method.getName())) {
                Check.tell("a private method with the name of a public one: " + method);
            }
        }
        for (Class<?> inside : ReceiveSteps.class.getDeclaredClasses()) {
            for (Method method : inside.getDeclaredMethods()) {
                if (open.contains(method.getName())) {
                    Check.tell("a method inside with the name of a public one: " + method);
                }
            }
        }
    }
}
