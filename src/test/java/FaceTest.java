import java.lang.reflect.Constructor;
import java.lang.reflect.Field;
import java.lang.reflect.Method;
import java.lang.reflect.Modifier;
import java.util.ArrayList;
import java.util.Arrays;
import java.util.HashSet;
import java.util.List;
import java.util.Set;

/** The public face is the document's, to the letter, and there is nothing beside it. */
public final class FaceTest {
    private static final String I = " throws IndexOutOfBoundsException";
    private static final String IS = " throws IndexOutOfBoundsException, IllegalStateException";
    private static final String IA = " throws IndexOutOfBoundsException, IllegalArgumentException";
    private static final String IAS = IA + ", IllegalStateException";

    private static final List<String> METHODS = List.of(
        "int give(int, int)" + IS,
        "int giveBack(int)" + IS,
        "int assign(int, int)" + IAS,
        "int end(int)" + IS,
        "int swap(int, int)" + IAS,
        "int emergency(int)" + IS,
        "int endFirm(int, int)" + IAS,
        "int order(int, int, int, int)" + IAS,
        "int cancel(int)" + IS,
        "int reverse(int)" + IS,
        "int pass(int) throws IllegalArgumentException, IllegalStateException",
        "int setLag(int, int)" + IA,
        "boolean setDown(int, boolean)" + I,
        "int correct(int)" + I,
        "int server(int)" + I,
        "int serverAnew(int)" + I,
        "int number(int, int)" + IA,
        "int of(int, int)" + IA,
        "int room(int) throws IllegalArgumentException",
        "int firm(int, int)" + IA,
        "int known(int, int)" + I,
        "int audit(int)" + I,
        "int hop(int, int, int, int)" + IA,
        "int why(int, int, int)" + IA,
        "int dial(int, int, int)" + IAS,
        "int minute()");

    public static void main(String[] args) throws Exception {
        Class<?> face = Portinghall.class;
        Check.is("the class is public and final", Modifier.toString(face.getModifiers()), "public final");
        checkConstants(face);
        checkMethods(face);
        checkConstructors(face);
        for (Class<?> inside : face.getDeclaredClasses()) {
            int m = inside.getModifiers();
            Check.note(Modifier.isStatic(m) && !Modifier.isPublic(m) && !Modifier.isProtected(m),
                inside + " is a static class of its own inside");
        }
        Check.finish("FaceTest");
    }

    private static void checkConstants(Class<?> face) throws IllegalAccessException {
        Set<String> seen = new HashSet<>();
        for (Field field : face.getDeclaredFields()) {
            if (Modifier.isPrivate(field.getModifiers())) {
                continue;
            }
            Check.is(field.getName(), Modifier.toString(field.getModifiers()), "public static final");
            seen.add(field.getName() + "=" + field.getInt(null));
        }
        Check.is("the constants", String.valueOf(seen.equals(Set.of(
            "NONE=-1", "HOME=6", "REJECTED=0", "WAITING=1", "DONE=2", "CANCELLED=3", "REVERSED=4",
            "ALL_CALL=0", "ONWARD=1", "DROP_BACK=2",
            "ARRIVED=0", "NO_BLOCK=1", "NOT_IN_USE=2", "LOOP=3", "STUCK=4"))), "true");
    }

    private static void checkMethods(Class<?> face) {
        List<String> seen = new ArrayList<>();
        Set<String> publicNames = new HashSet<>();
        for (Method method : face.getDeclaredMethods()) {
            if (!Modifier.isPrivate(method.getModifiers()) && !method.isSynthetic()) {
                Check.is(method.getName(), Modifier.toString(method.getModifiers()), "public");
                seen.add(written(method));
                publicNames.add(method.getName());
            }
        }
        for (String method : METHODS) {
            Check.note(seen.remove(method), "there is no " + method);
        }
        Check.note(seen.isEmpty(), "more than the document's face: " + seen);
        for (Method method : face.getDeclaredMethods()) {
            if (Modifier.isPrivate(method.getModifiers())) {
                Check.note(!publicNames.contains(method.getName()), "a private method is named " + method.getName());
            }
        }
    }

    private static void checkConstructors(Class<?> face) {
        Constructor<?>[] constructors = face.getDeclaredConstructors();
        Check.is("constructors", constructors.length, 1);
        Check.is("the constructor's arguments", constructors[0].getParameterCount(), 0);
        Check.is("the constructor", Modifier.toString(constructors[0].getModifiers()), "public");
    }

    private static String written(Method method) {
        String text = method.getReturnType().getSimpleName() + " " + method.getName()
            + "(" + names(method.getParameterTypes()) + ")";
        Class<?>[] thrown = method.getExceptionTypes();
        return thrown.length == 0 ? text : text + " throws " + names(thrown);
    }

    private static String names(Class<?>[] types) {
        return String.join(", ", Arrays.stream(types).map(Class::getSimpleName).toArray(String[]::new));
    }
}
