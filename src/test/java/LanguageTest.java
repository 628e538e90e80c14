import java.io.IOException;
import java.nio.file.Files;
import java.nio.file.Path;
import java.util.List;
import java.util.regex.Matcher;
import java.util.regex.Pattern;

/** Words and shapes that LANGUAGE.md leaves out do not stand in the class's file. */
public final class LanguageTest {
    private static final Path SOURCE = Path.of("src/main/java/ReversibleParts.java");
    private static final List<String> LEFT_OUT = List.of(
            "^\\s*(package|import)\\b", "->", "::", "\\b(try|catch|finally|throw|throws|synchronized|assert)\\b",
            "Exact\\b", "Exception", "\\b(System|Thread|Random|Runtime|Class|Object)\\b", "\\bstatic\\s*\\{", "\\b(double|float)\\b",
            "\\b(equals|hashCode|toString)\\b", "\\bprotected\\b", "\\bString\\b",
            "\\bprivate\\s+[\\w\\[\\] ]*\\b(begin|put|apply|gate|look|form|product|program|need|move|marks|total)\\(",
            "\\bstatic\\s+(?!final\\b)(?!class\\b)[\\w\\[\\]]+\\s+\\w+\\s*[=;]");

    public static void main(String[] args) throws IOException {
        String code = Files.readString(SOURCE).replaceAll("(?s)/\\*.*?\\*/", "").replaceAll("//[^\n]*", "");
        for (String shape : LEFT_OUT) {
            Matcher found = Pattern.compile(shape, Pattern.MULTILINE).matcher(code);
            Check.due("left out: " + shape + (found.find() ? ", found: " + found.group() : ""), found.reset().find(), false);
        }
        Check.finish();
    }
}
