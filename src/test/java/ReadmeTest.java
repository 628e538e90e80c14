import java.io.IOException;
import java.lang.reflect.Method;
import java.lang.reflect.Modifier;
import java.lang.reflect.Parameter;
import java.nio.file.Files;
import java.nio.file.Path;
import java.util.ArrayList;
import java.util.Arrays;
import java.util.HashSet;
import java.util.List;
import java.util.Set;
import java.util.regex.Matcher;
import java.util.regex.Pattern;

/** What README.md shows as an answer is what the class answers, and each method is shown. */
public final class ReadmeTest {
    private static final String MADE = "ReversibleParts x = new ReversibleParts();";
    private static final Pattern NAMED_NONE = Pattern.compile("int none = ReversibleParts\\.NONE; +// (-?\\d+)");
    private static final Pattern CALL = Pattern.compile("x\\.(\\w+)\\(([^()]*)\\); +// (-?\\d+|NONE|true|false)(: (.+))?");
    private static final Pattern ALL_OF_THEM = Pattern.compile("\\d+(, \\d+)+");

    private final Set<String> called = new HashSet<>();
    private final Set<String> refused = new HashSet<>();
    private ReversibleParts x;
    private boolean noneIsNamed;

    public static void main(String[] args) throws IOException, ReflectiveOperationException {
        List<String> lines = Files.readAllLines(Path.of("README.md"));
        ReadmeTest readme = new ReadmeTest();
        readme.runBlocks(lines);
        readme.everyMethodIsShown(String.join("\n", lines));
        Check.finish();
    }

    private void runBlocks(List<String> lines) throws ReflectiveOperationException {
        boolean within = false;
        for (String line : lines) {
            if (line.startsWith("```")) {
                within = line.equals("```java");
                x = null;
                noneIsNamed = false;
            } else if (within) {
                runLine(line);
            }
        }
    }

    private void runLine(String line) throws ReflectiveOperationException {
        Matcher named = NAMED_NONE.matcher(line);
        Matcher call = CALL.matcher(line);
        if (line.equals(MADE)) {
            x = new ReversibleParts();
        } else if (named.matches()) {
            noneIsNamed = true;
            Check.due(line, ReversibleParts.NONE, Integer.parseInt(named.group(1)));
        } else {
            // a line of another shape would be shown without being looked at
            boolean known = x != null && call.matches();
            Check.due("the test can read: " + line, known, true);
            if (known) {
                runCall(line, call);
            }
        }
    }

    private void runCall(String line, Matcher call) throws ReflectiveOperationException {
        String name = call.group(1);
        Object[] given = arguments(call.group(2));
        String shown = call.group(3);
        String got = answered(name, given);
        Check.due(line + " (answered " + got + ")", got.equals(shown.equals("NONE") ? "-1" : shown), true);
        called.add(name);
        if (shown.equals("NONE") || shown.equals("false")) {
            refused.add(name);
        }
        String words = call.group(5);
        if (words != null && ALL_OF_THEM.matcher(words).matches()) {
            allOfThem(line, name, given, words);
        }
    }

    /** Behind how many there are, all of them are shown. */
    private void allOfThem(String line, String name, Object[] given, String words) throws ReflectiveOperationException {
        List<String> all = new ArrayList<>();
        int count = Integer.parseInt(answered(name, given));
        for (int i = 0; i < count; i++) {
            given[given.length - 1] = i;
            all.add(answered(name, given));
        }
        Check.due(line + " (all are " + all + ")", String.join(", ", all).equals(words), true);
    }

    private Object[] arguments(String text) {
        if (text.isEmpty()) {
            return new Object[0];
        }
        String[] words = text.split(", ");
        Object[] given = new Object[words.length];
        for (int i = 0; i < words.length; i++) {
            boolean none = words[i].equals("none");
            Check.due("none is named ahead of its use", !none || noneIsNamed, true);
            given[i] = none ? ReversibleParts.NONE : Integer.parseInt(words[i]);
        }
        return given;
    }

    private String answered(String name, Object[] given) throws ReflectiveOperationException {
        Class<?>[] types = new Class<?>[given.length];
        Arrays.fill(types, int.class);
        return String.valueOf(ReversibleParts.class.getMethod(name, types).invoke(x, given));
    }

    private void everyMethodIsShown(String text) {
        Check.due("how an object is made", text.contains("`new ReversibleParts()`"), true);
        Check.due("how the tests are run", text.contains("\n    .ci/run\n"), true);
        for (Method method : ReversibleParts.class.getDeclaredMethods()) {
            if (Modifier.isPublic(method.getModifiers())) {
                String name = method.getName();
                Check.due(name + " has a row", text.contains("\n| `" + face(method)), true);
                Check.due(name + " has an example", called.contains(name), true);
                // marks alone always has an answer
                Check.due(name + " has an example of false or NONE", refused.contains(name), !name.equals("marks"));
            }
        }
    }

    /** As far as it can be known without the parameters' names. */
    private static String face(Method method) {
        Parameter[] all = method.getParameters();
        return method.getReturnType() + " " + method.getName() + "(" + (all.length == 0 ? ")`" : "int ");
    }
}
