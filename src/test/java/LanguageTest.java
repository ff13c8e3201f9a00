import java.io.IOException;
import java.lang.reflect.Executable;
import java.lang.reflect.Field;
import java.lang.reflect.Method;
import java.lang.reflect.Modifier;
import java.nio.file.Files;
import java.nio.file.Path;
import java.util.ArrayList;
import java.util.Collections;
import java.util.List;
import java.util.Set;
import java.util.TreeSet;
import java.util.regex.Matcher;
import java.util.regex.Pattern;

/** The rules of LANGUAGE.md that can be seen in the class's text, or by reflection; it does not stand for the others. */
public final class LanguageTest {
    private static final Path SOURCE = Path.of("src/main/java/FormulaLists.java");
    private static final int MOST_CLASSES = 12;
    private static final int MOST_FIELDS = 20;
    private static final int MOST_PARAMETERS = 7;
    private static final int MOST_LINES = 60;
    private static final Set<String> LIBRARY = Set.of("Math", "Integer", "Long", "String", "StringBuilder", "Arrays",
        "ArrayList", "List", "System");
    private static final Set<String> EXCEPTIONS = Set.of("IllegalStateException", "IllegalArgumentException",
        "IndexOutOfBoundsException", "ArithmeticException", "UnsupportedOperationException", "NoSuchElementException",
        "RuntimeException");
    private static final Set<String> CONSTANTS = Set.of("int", "long", "boolean", "char", "String", "int[]", "long[]",
        "char[]", "byte[]");
    private static final String[] RULED_OUT = {
        "->", "::", "\\bfinally\\b", "\\bassert\\b", "\\bsynchronized\\b", "\\bstatic\\s*\\{", "\\w+Exact\\b",
        "\\bcatch\\s*\\(\\s*(Throwable|Exception|Error)\\b", "\\bpackage\\b", "\\bvolatile\\b", "\\bnative\\b",
        "\\.getMessage\\b", "\\bthrow (?!new )", "\\.hashCode\\b", "\\.toString\\b", "\\bvar\\b"
    };

    private static int wrong = 0;

    private static void tell(int rule, String text) {
        wrong++;
        System.out.println("rule " + rule + ": " + text);
    }

    /** Without comments and written texts, in which every word may stand. */
    private static String bare(String source) {
        return source.replaceAll("(?s)/\\*.*?\\*/", "").replaceAll("//[^\n]*", "").replaceAll("\"[^\"\n]*\"", "\"\"");
    }

    private static List<Class<?>> allClasses() {
        List<Class<?>> all = new ArrayList<>();
        all.add(FormulaLists.class);
        for (int at = 0; at < all.size(); at++) {
            Collections.addAll(all, all.get(at).getDeclaredClasses());
        }
        return all;
    }

    private static void names(String text, List<Class<?>> classes) {
        Set<String> known = new TreeSet<>(LIBRARY);
        known.addAll(EXCEPTIONS);
        for (Class<?> one : classes) {
            known.add(one.getSimpleName());
        }
        Matcher word = Pattern.compile("\\b[A-Z]\\w*[a-z]\\w*\\b").matcher(text.replaceAll("import [^;]*;", ""));
        Set<String> unknown = new TreeSet<>();
        while (word.find()) {
            if (!known.contains(word.group())) {
                unknown.add(word.group());
            }
        }
        if (!unknown.isEmpty()) {
            tell(4, "not of the library: " + unknown);
        }
        Matcher thrown = Pattern.compile("throw new (\\w+)").matcher(text);
        while (thrown.find()) {
            if (!EXCEPTIONS.contains(thrown.group(1))) {
                tell(6, "throws " + thrown.group(1));
            }
        }
        for (String pattern : RULED_OUT) {
            if (Pattern.compile(pattern).matcher(text).find()) {
                tell(6, "ruled out (here, or by another rule): " + pattern);
            }
        }
    }

    private static void fields(Class<?> one) {
        int own = 0;
        for (Field field : one.getDeclaredFields()) {
            boolean isStatic = Modifier.isStatic(field.getModifiers());
            boolean isConstant = Modifier.isFinal(field.getModifiers()) && CONSTANTS.contains(field.getType().getSimpleName());
            if (isStatic && !field.isSynthetic() && !isConstant && !one.isEnum()) {
                tell(5, "static, and no constant: " + field);
            }
            own += isStatic || field.isSynthetic() ? 0 : 1;
        }
        if (own > MOST_FIELDS) {
            tell(11, own + " fields: " + one);
        }
    }

    private static void parameters(Class<?> one) {
        List<Executable> all = new ArrayList<>();
        Collections.addAll(all, one.getDeclaredMethods());
        Collections.addAll(all, one.getDeclaredConstructors());
        for (Executable each : all) {
            if (each.getParameterCount() > MOST_PARAMETERS) {
                tell(11, each.getParameterCount() + " parameters: " + each);
            }
        }
    }

    /** The face's names belong to the face alone, in the classes inside too. */
    private static void faceNames(Class<?> inside) {
        Set<String> face = new TreeSet<>();
        for (Method method : FormulaLists.class.getMethods()) {
            face.add(method.getName());
        }
        for (Method method : inside.getDeclaredMethods()) {
            if (face.contains(method.getName())) {
                tell(1, "bears the name of a public one: " + method);
            }
        }
    }

    /** A method's head ends with a brace, and its end is a brace at the same place. */
    private static void lengths(String source) {
        String[] lines = source.split("\n");
        Pattern head = Pattern.compile("^( {4}| {8})(?!.*\\b(class|new|if|for|while|switch|else)\\b)\\S.*\\) ?(throws .*)?\\{$");
        for (int at = 0; at < lines.length; at++) {
            Matcher found = head.matcher(lines[at]);
            if (!found.matches()) {
                continue;
            }
            int end = at;
            while (end < lines.length && !lines[end].equals(found.group(1) + "}")) {
                end++;
            }
            if (end - at > MOST_LINES) {
                tell(11, (end - at) + " lines: " + lines[at].strip());
            }
        }
    }

    public static void main(String[] args) throws IOException {
        String source = Files.readString(SOURCE);
        List<Class<?>> classes = allClasses();
        names(bare(source), classes);
        lengths(source);
        if (classes.size() > MOST_CLASSES) {
            tell(11, classes.size() + " classes");
        }
        for (Class<?> one : classes) {
            fields(one);
            parameters(one);
            if (one != FormulaLists.class) {
                faceNames(one);
            }
        }
        System.out.println(wrong == 0 ? "the language is as due" : wrong + " places are not as due");
        if (wrong != 0) {
            System.exit(1);
        }
    }
}
