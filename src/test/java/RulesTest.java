import java.nio.file.Files;
import java.nio.file.Path;
import java.util.regex.Matcher;
import java.util.regex.Pattern;

/** The rules of LANGUAGE.md that can be seen in the text of the class. */
public final class RulesTest {
    private static final String[] FORBIDDEN = {
        "throw", "throws", "try", "catch", "finally", "synchronized", "assert", "import", "package", "protected",
        "volatile", "transient", "native", "var", "yield", "Object", "Exception", "Error", "Thread", "Random",
        "hashCode", "toString", "currentTimeMillis", "nanoTime", "out", "err"};

    public static void main(String[] args) throws Exception {
        Check check = new Check();
        String source = Files.readString(Path.of("src/main/java/AnswerSquare.java"));
        String code = source.replaceAll("(?s)/\\*.*?\\*/", "").replaceAll("//[^\n]*", "");
        for (String word : FORBIDDEN) {
            check.due("times '" + word + "'", times(code, "\\b" + word + "\\b"), 0);
        }
        check.due("lambdas", times(code, "->"), 0);
        check.due("method references", times(code, "::"), 0);
        check.due("names that end in Exact", times(code, "Exact\\b"), 0);
        check.due("classes but the twelve", Math.max(0, times(code, "\\b(class|interface|enum|record) [A-Z]") - 12), 0);
        check.due("static fields that are not final", times(code, "\\bstatic (?!final)[a-z]+(\\[\\])? [a-zA-Z]+ *[=;]"), 0);
        check.due("signs beyond 127", source.chars().filter(c -> c > 127).count(), 0);
        check.end();
    }

    private static int times(String code, String pattern) {
        Matcher m = Pattern.compile(pattern).matcher(code);
        int found = 0;
        while (m.find()) {
            found++;
        }
        return found;
    }
}
