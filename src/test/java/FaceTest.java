import java.lang.reflect.Constructor;
import java.lang.reflect.Field;
import java.lang.reflect.Method;
import java.lang.reflect.Modifier;
import java.util.Arrays;
import java.util.Map;
import java.util.TreeMap;
import java.util.stream.Collectors;

/** The public face: just the document's constructor and methods, each with the exceptions that it names, in their order. */
public final class FaceTest {
    private static final String[] FACE = {
        "int atom(int, int) throws IllegalArgumentException, UnsupportedOperationException",
        "int script(int, boolean, int) throws NoSuchElementException, IllegalStateException",
        "int fraction(int, int, long) throws NoSuchElementException, IllegalArgumentException, IllegalStateException,"
            + " UnsupportedOperationException",
        "int fence(int, int, int) throws NoSuchElementException, IllegalArgumentException, IllegalStateException,"
            + " UnsupportedOperationException",
        "int matrix(int, int) throws UnsupportedOperationException",
        "int style(int, boolean) throws IllegalArgumentException, UnsupportedOperationException",
        "int run(int) throws NoSuchElementException",
        "int item(int, int) throws IndexOutOfBoundsException",
        "int space(int, int) throws IllegalArgumentException",
        "int kind(int) throws NoSuchElementException",
        "int split(int, int) throws NoSuchElementException, IndexOutOfBoundsException, UnsupportedOperationException"
    };

    private static int wrong = 0;

    private static void tell(String text) {
        wrong++;
        System.out.println(text);
    }

    private static String names(Class<?>[] classes) {
        return Arrays.stream(classes).map(Class::getSimpleName).collect(Collectors.joining(", "));
    }

    private static void methods() {
        Map<String, String> declared = new TreeMap<>();
        for (Method method : FormulaLists.class.getDeclaredMethods()) {
            if (method.isSynthetic() || Modifier.isPrivate(method.getModifiers())) {
                continue;
            }
            String text = method.getReturnType().getSimpleName() + " " + method.getName() + "(" + names(method.getParameterTypes())
                + ") throws " + names(method.getExceptionTypes());
            if (declared.put(method.getName(), text) != null || method.getModifiers() != Modifier.PUBLIC) {
                tell("not of the face: " + method);
            }
        }
        for (String due : FACE) {
            String name = due.substring(4, due.indexOf('('));
            if (!due.equals(declared.remove(name))) {
                tell("not as due: " + name);
            }
        }
        for (String left : declared.values()) {
            tell("not of the face: " + left);
        }
        for (Method method : FormulaLists.class.getDeclaredMethods()) {
            boolean isFace = Arrays.stream(FACE).anyMatch(due -> due.contains(" " + method.getName() + "("));
            if (isFace && Modifier.isPrivate(method.getModifiers())) {
                tell("a private method with a public one's name: " + method);
            }
        }
    }

    private static void others() {
        if (FormulaLists.class.getModifiers() != (Modifier.PUBLIC | Modifier.FINAL)) {
            tell("the class is public and final");
        }
        Constructor<?>[] constructors = FormulaLists.class.getDeclaredConstructors();
        if (constructors.length != 1 || constructors[0].getParameterCount() != 0
            || constructors[0].getModifiers() != Modifier.PUBLIC || constructors[0].getExceptionTypes().length != 0) {
            tell("one public constructor without arguments");
        }
        for (Field field : FormulaLists.class.getDeclaredFields()) {
            if (!field.isSynthetic() && !Modifier.isPrivate(field.getModifiers())) {
                tell("not of the face: " + field);
            }
        }
        for (Class<?> inside : FormulaLists.class.getDeclaredClasses()) {
            if (Modifier.isPublic(inside.getModifiers()) || Modifier.isProtected(inside.getModifiers())
                || !Modifier.isStatic(inside.getModifiers())) {
                tell("a class inside is static, and private or package-visible: " + inside);
            }
        }
    }

    public static void main(String[] args) {
        methods();
        others();
        System.out.println(wrong == 0 ? "the face is as due" : wrong + " members are not as due");
        if (wrong != 0) {
            System.exit(1);
        }
    }
}
