import java.lang.reflect.Constructor;
import java.lang.reflect.Field;
import java.lang.reflect.Method;
import java.lang.reflect.Modifier;
import java.util.Set;
import java.util.TreeSet;

/** The face has what the document names, and nothing else of the class can be seen from outside. */
public final class FaceTest {
    private static final String[] FACE = {
        "int leap(int, int) throws IllegalArgumentException IndexOutOfBoundsException",
        "int turn(int, double) throws IllegalArgumentException IndexOutOfBoundsException",
        "int make(long, long) throws IllegalArgumentException IndexOutOfBoundsException",
        "int shift(int, double) throws NoSuchElementException IllegalArgumentException IndexOutOfBoundsException",
        "double difference(int, int) throws NoSuchElementException",
        "int compare(int, int) throws NoSuchElementException",
        "long date(int, int, int) throws NoSuchElementException IllegalArgumentException ArithmeticException",
        "double offset(int, int) throws NoSuchElementException IllegalArgumentException",
        "double julian(int, int) throws NoSuchElementException IllegalArgumentException",
        "int text(long) throws IllegalArgumentException IndexOutOfBoundsException",
        "int read(int) throws IllegalArgumentException IllegalStateException IndexOutOfBoundsException",
        "int wrong() throws",
        "int write(int, int, int) throws NoSuchElementException IllegalArgumentException ArithmeticException",
        "int letter(int) throws IndexOutOfBoundsException",
        "long seconds(int) throws NoSuchElementException",
        "long attos(int) throws NoSuchElementException",
        "int count(int) throws IllegalArgumentException",
    };

    private static final Due DUE = new Due("FaceTest");

    public static void main(String[] args) {
        Class<?> desk = EpochDesk.class;
        DUE.same("class modifiers", Modifier.toString(desk.getModifiers()), "public final");
        DUE.same("superclass", desk.getSuperclass().getName(), "java.lang.Object");
        DUE.same("interfaces", desk.getInterfaces().length, 0L);
        Constructor<?>[] constructors = desk.getDeclaredConstructors();
        DUE.same("constructors", constructors.length, 1L);
        DUE.same("constructor", constructors[0].toString(), "public EpochDesk()");
        methodsAreThoseOfTheFace(desk);
        restIsHidden(desk);
        DUE.end();
    }

    private static void methodsAreThoseOfTheFace(Class<?> desk) {
        Set<String> got = new TreeSet<>();
        Set<String> names = new TreeSet<>();
        for (Method method : desk.getDeclaredMethods()) {
            if (!Modifier.isPrivate(method.getModifiers())) {
                DUE.same(method.getName() + " modifiers", Modifier.toString(method.getModifiers()), "public");
                got.add(signatureOf(method));
                names.add(method.getName());
            }
        }
        DUE.same("face", String.join("\n", got), String.join("\n", new TreeSet<>(Set.of(FACE))));
        noOtherMethodHasAFaceName(desk, names);
    }

    private static void noOtherMethodHasAFaceName(Class<?> desk, Set<String> names) {
        for (Method method : desk.getDeclaredMethods()) {
            if (Modifier.isPrivate(method.getModifiers())) {
                DUE.same("name of private " + method.getName(), names.contains(method.getName()) ? 1L : 0L, 0L);
            }
        }
        for (Class<?> inside : desk.getDeclaredClasses()) {
            for (Method method : inside.getDeclaredMethods()) {
                String name = inside.getSimpleName() + "." + method.getName();
                DUE.same("name of " + name, names.contains(method.getName()) ? 1L : 0L, 0L);
            }
        }
    }

    private static void restIsHidden(Class<?> desk) {
        for (Field field : desk.getDeclaredFields()) {
            DUE.same(field.getName() + " private", Modifier.isPrivate(field.getModifiers()) ? 1L : 0L, 1L);
            staticFieldsAreConstants(field);
        }
        Class<?>[] classes = desk.getDeclaredClasses();
        DUE.isTrue("at most 12 classes", classes.length + 1 <= 12);
        isOfSmallSize(desk);
        for (Class<?> inside : classes) {
            int modifiers = inside.getModifiers();
            DUE.same(inside + " static", Modifier.isStatic(modifiers) ? 1L : 0L, 1L);
            DUE.same(inside + " hidden", Modifier.isPublic(modifiers) || Modifier.isProtected(modifiers) ? 1L : 0L, 0L);
            for (Field field : inside.getDeclaredFields()) {
                staticFieldsAreConstants(field);
            }
            isOfSmallSize(inside);
        }
    }

    /** LANGUAGE.md's rule 11. */
    private static void isOfSmallSize(Class<?> one) {
        int fields = 0;
        for (Field field : one.getDeclaredFields()) {
            fields += Modifier.isStatic(field.getModifiers()) ? 0 : 1;
        }
        DUE.isTrue(one + " has at most 20 fields", fields <= 20);
        for (Method method : one.getDeclaredMethods()) {
            DUE.isTrue(method + " takes at most seven", method.getParameterCount() <= 7);
        }
        for (Constructor<?> constructor : one.getDeclaredConstructors()) {
            DUE.isTrue(constructor + " takes at most seven", constructor.getParameterCount() <= 7);
        }
    }

    private static void staticFieldsAreConstants(Field field) {
        if (Modifier.isStatic(field.getModifiers())) {
            Set<String> kinds = Set.of("int", "long", "boolean", "char", "String", "int[]", "long[]", "char[]", "byte[]");
            boolean isConstant = Modifier.isFinal(field.getModifiers())
                    && kinds.contains(field.getType().getSimpleName());
            DUE.same(field + " is a constant of LANGUAGE.md's rule 5", isConstant ? 1L : 0L, 1L);
        }
    }

    private static String signatureOf(Method method) {
        StringBuilder built = new StringBuilder();
        built.append(method.getReturnType().getSimpleName()).append(' ').append(method.getName()).append('(');
        for (int i = 0; i < method.getParameterCount(); i++) {
            built.append(i == 0 ? "" : ", ").append(method.getParameterTypes()[i].getSimpleName());
        }
        built.append(") throws");
        for (Class<?> thrown : method.getExceptionTypes()) {
            built.append(' ').append(thrown.getSimpleName());
        }
        return built.toString();
    }
}
