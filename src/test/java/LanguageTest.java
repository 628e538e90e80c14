import java.io.IOException;
import java.lang.reflect.Constructor;
import java.lang.reflect.Field;
import java.lang.reflect.Method;
import java.lang.reflect.Modifier;
import java.nio.file.Files;
import java.nio.file.Path;
import java.util.ArrayList;
import java.util.HashSet;
import java.util.List;
import java.util.Set;
import java.util.regex.Matcher;
import java.util.regex.Pattern;

/** The rules of LANGUAGE.md that can be seen from the class's file or from the classes made of it. */
public final class LanguageTest {
    private static final Path SOURCE = Path.of("src/main/java/ReversibleParts.java");
    private static final List<String> LEFT_OUT = List.of(
            "^\\s*(package|import)\\b", "->", "::", "\\b(try|catch|finally|throw|throws|synchronized|assert)\\b",
            "Exact\\b", "Exception", "\\b(System|Thread|Random|Runtime|Class|Object)\\b", "\\bstatic\\s*\\{", "\\b(double|float)\\b",
            "\\b(equals|hashCode|toString)\\b", "\\bprotected\\b", "\\bString\\b", "\\[\\]\\s*\\[\\]", "[^\\x00-\\x7f]",
            "\\bprivate\\s+[\\w\\[\\] ]*\\b(begin|put|apply|gate|look|form|product|program|need|move|marks|total)\\(",
            "\\bstatic\\s+(?!final\\b)(?!class\\b)[\\w\\[\\]]+\\s+\\w+\\s*[=;]",
            // a loop's end is seen where it has a counter and a bound
            "\\b(while|do)\\b", "\\bfor \\((?!int (\\w+) = [^;]+; [^;]*\\b\\1 (<|<=|>=) [^;]+; \\1(\\+\\+|--)\\))");
    private static final Set<String> LIBRARY = Set.of("Math.max", "Math.min", "Integer.bitCount");
    private static final Set<Class<?>> CONSTANTS = Set.of(int.class, long.class, boolean.class, char.class, String.class,
            int[].class, long[].class, char[].class, byte[].class);
    private static final int MOST_CLASSES = 12;
    private static final int MOST_FIELDS = 20;
    private static final int MOST_PARAMETERS = 7;
    private static final int MOST_LINES = 60;

    public static void main(String[] args) throws IOException {
        String whole = Files.readString(SOURCE);
        String code = whole.replaceAll("(?s)/\\*.*?\\*/", "").replaceAll("//[^\n]*", "");
        leftOut(code);
        library(code);
        List<Class<?>> all = new ArrayList<>();
        addWithInner(all, ReversibleParts.class);
        Check.due("rule 11: so few classes as " + all.size(), all.size() <= MOST_CLASSES, true);
        for (Class<?> one : all) {
            fields(one);
            methods(one);
        }
        lengths(whole.lines().toList());
        Check.finish();
    }

    private static void leftOut(String code) {
        for (String shape : LEFT_OUT) {
            Matcher found = Pattern.compile(shape, Pattern.MULTILINE).matcher(code);
            Check.due("left out: " + shape + (found.find() ? ", found: " + found.group() : ""), found.reset().find(), false);
        }
    }

    private static void library(String code) {
        Matcher used = Pattern.compile("\\b(Math|Integer|Long|Character|Boolean|Arrays|List|System)\\.(\\w+)").matcher(code);
        while (used.find()) {
            Check.due("rule 4: " + used.group(), LIBRARY.contains(used.group()), true);
        }
    }

    private static void addWithInner(List<Class<?>> all, Class<?> one) {
        all.add(one);
        for (Class<?> inner : one.getDeclaredClasses()) {
            int how = inner.getModifiers();
            Check.due("rule 1: " + inner + " is static", Modifier.isStatic(how), true);
            Check.due("rule 1: " + inner + " is hidden", Modifier.isPublic(how) || Modifier.isProtected(how), false);
            addWithInner(all, inner);
        }
    }

    private static void fields(Class<?> one) {
        int own = 0;
        for (Field field : one.getDeclaredFields()) {
            boolean constant = Modifier.isStatic(field.getModifiers());
            own += constant ? 0 : 1;
            if (constant) {
                Check.due("rule 5: " + field + " is final", Modifier.isFinal(field.getModifiers()), true);
                Check.due("rule 5: the type of " + field, CONSTANTS.contains(field.getType()), true);
            }
        }
        Check.due("rule 11: so few fields of " + one + " as " + own, own <= MOST_FIELDS, true);
    }

    private static void methods(Class<?> one) {
        Set<String> face = new HashSet<>();
        for (Method method : ReversibleParts.class.getMethods()) {
            face.add(method.getName());
        }
        for (Method method : one.getDeclaredMethods()) {
            Check.due("rule 11: the parameters of " + method, method.getParameterCount() <= MOST_PARAMETERS, true);
            boolean ofTheFace = one == ReversibleParts.class && Modifier.isPublic(method.getModifiers());
            Check.due("rule 1: no other method with a name of the face: " + method, !ofTheFace && face.contains(method.getName()), false);
        }
        for (Constructor<?> made : one.getDeclaredConstructors()) {
            Check.due("rule 11: the parameters of " + made, made.getParameterCount() <= MOST_PARAMETERS, true);
        }
    }

    /** A method begins at a line that ends with ") {" where members stand, and ends at the same depth. */
    private static void lengths(List<String> lines) {
        Pattern head = Pattern.compile("( {4}| {8})(?! )[\\w\\[\\] ]+\\(.*\\) \\{");
        int methods = 0;
        for (int from = 0; from < lines.size(); from++) {
            Matcher found = head.matcher(lines.get(from));
            if (found.matches() && !lines.get(from).matches(" *(if|for|switch) .*")) {
                int to = from;
                while (!lines.get(to).equals(found.group(1) + "}")) {
                    to++;
                }
                methods++;
                Check.due("rule 11: the lines of " + lines.get(from), to - from + 1 <= MOST_LINES, true);
            }
        }
        Check.due("methods whose lines were counted: " + methods, methods >= 13, true);
    }
}
