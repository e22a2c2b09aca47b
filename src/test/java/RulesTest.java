import java.nio.file.Files;
import java.nio.file.Path;
import java.util.Map;
import java.util.Set;
import java.util.TreeMap;
import java.util.TreeSet;
import java.util.regex.Matcher;
import java.util.regex.Pattern;

/** The rules of LANGUAGE.md that can be seen in the text of the class. */
public final class RulesTest {
    private static final String[] FORBIDDEN = {
        "throw", "throws", "try", "catch", "finally", "synchronized", "assert", "import", "package", "protected",
        "volatile", "transient", "native", "var", "yield", "Object", "Exception", "Error", "Thread", "Random",
        "hashCode", "toString", "currentTimeMillis", "nanoTime", "out", "err"};
    private static final Set<String> LIBRARY = Set.of("Math.min", "Integer.bitCount", "System.arraycopy");
    private static final Pattern METHOD = Pattern.compile(
            "\\b(?:public|private) (?:static )?(?:[A-Za-z]+(?:\\[\\])? )?([A-Za-z]+)\\(([^)]*)\\) \\{");
    private static final int MOST_LINES = 60, MOST_PARAMETERS = 7, MOST_DEEP = 8, MOST_CLASSES = 12, MOST_FIELDS = 20;

    public static void main(String[] args) throws Exception {
        Check check = new Check();
        String source = Files.readString(Path.of("src/main/java/AnswerSquare.java"));
        String code = source.replaceAll("(?s)/\\*.*?\\*/", "").replaceAll("//[^\n]*", "");
        words(check, source, code);
        library(check, code);
        Map<String, String> bodies = bodies(check, code);
        madeInConstructorsAlone(check, bodies);
        for (String name : bodies.keySet()) {
            int deep = depth(name, bodies, new TreeSet<>());
            check.due("calls go at most eight deep from " + name + ": " + deep, Math.max(deep, MOST_DEEP), MOST_DEEP);
        }
        fields(check);
        check.end();
    }

    private static void words(Check check, String source, String code) {
        for (String word : FORBIDDEN) {
            check.due("times '" + word + "'", times(code, "\\b" + word + "\\b"), 0);
        }
        check.due("lambdas", times(code, "->"), 0);
        check.due("method references", times(code, "::"), 0);
        check.due("names that end in Exact", times(code, "Exact\\b"), 0);
        check.due("classes but the twelve",
                Math.max(0, times(code, "\\b(class|interface|enum|record) [A-Z]") - MOST_CLASSES), 0);
        check.due("static fields that are not final", times(code, "\\bstatic (?!final)[a-z]+(\\[\\])? [a-zA-Z]+ *[=;]"), 0);
        check.due("signs beyond 127", source.chars().filter(c -> c > 127).count(), 0);
    }

    private static void library(Check check, String code) {
        Matcher m = Pattern.compile("\\b([A-Z][a-z]+\\.[a-z][A-Za-z]*)\\(").matcher(code);
        while (m.find()) {
            check.due("is in the list of the library: " + m.group(1), LIBRARY.contains(m.group(1)) ? 1 : 0, 1);
        }
    }

    /** Of each method and constructor its body; no two methods of the file bear the same name. */
    private static Map<String, String> bodies(Check check, String code) {
        Map<String, String> bodies = new TreeMap<>();
        Matcher m = METHOD.matcher(code);
        while (m.find()) {
            String name = m.group(1);
            String body = code.substring(m.end(), closing(code, m.end()));
            check.due("one method only is named " + name, bodies.containsKey(name) ? 1 : 0, 0);
            bodies.put(name, body);
            check.due("lines of " + name, Math.max(body.lines().count(), MOST_LINES), MOST_LINES);
            int parameters = m.group(2).isEmpty() ? 0 : m.group(2).split(",").length;
            check.due("parameters of " + name, Math.max(parameters, MOST_PARAMETERS), MOST_PARAMETERS);
        }
        check.due("methods were found", bodies.size() > 25 ? 1 : 0, 1);
        return bodies;
    }

    private static int closing(String code, int start) {
        int open = 1;
        int at = start;
        while (open > 0) {
            open += code.charAt(at) == '{' ? 1 : code.charAt(at) == '}' ? -1 : 0;
            at++;
        }
        return at - 1;
    }

    /** All calls of a run share one room, so that no call may make anything. */
    private static void madeInConstructorsAlone(Check check, Map<String, String> bodies) {
        for (Map.Entry<String, String> body : bodies.entrySet()) {
            if (!Character.isUpperCase(body.getKey().charAt(0))) {
                check.due("made by " + body.getKey(), times(body.getValue(), "\\bnew\\b|\\.clone\\(|\\bcopyOf"), 0);
            }
        }
    }

    /** How many methods stand open at once, itself too. The class has no recursion: one would be 1000 deep here. */
    private static int depth(String name, Map<String, String> bodies, Set<String> open) {
        if (open.contains(name)) {
            return 1000;
        }
        Set<String> more = new TreeSet<>(open);
        more.add(name);
        int deepest = 0;
        Matcher m = Pattern.compile("\\b([A-Za-z]+)\\(").matcher(bodies.get(name));
        while (m.find()) {
            if (bodies.containsKey(m.group(1))) {
                deepest = Math.max(deepest, depth(m.group(1), bodies, more));
            }
        }
        return deepest + 1;
    }

    private static void fields(Check check) {
        fieldsOf(check, AnswerSquare.class);
        for (Class<?> inside : AnswerSquare.class.getDeclaredClasses()) {
            fieldsOf(check, inside);
        }
    }

    private static void fieldsOf(Check check, Class<?> type) {
        int many = 0;
        for (java.lang.reflect.Field field : type.getDeclaredFields()) {
            many += java.lang.reflect.Modifier.isStatic(field.getModifiers()) ? 0 : 1;
        }
        check.due("fields of " + type, Math.max(many, MOST_FIELDS), MOST_FIELDS);
    }

    private static int times(String code, String pattern) {
        Matcher m = Pattern.compile(pattern).matcher(code);
        int found = 0;
        while (m.find()) {
            found++;
        }
        return found;
    }
}
