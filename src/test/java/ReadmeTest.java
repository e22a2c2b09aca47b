import java.nio.file.Files;
import java.nio.file.Path;
import java.util.List;
import java.util.Set;
import java.util.TreeSet;
import java.util.regex.Matcher;
import java.util.regex.Pattern;

/** README.md's example is run as it stands there: each call answers the number that its comment begins with. */
public final class ReadmeTest {
    private static final Pattern TEXT = Pattern.compile("String text = \"([^\"]*)\";");
    private static final Pattern CALL = Pattern.compile("square\\.(\\w+)\\(([-0-9, ]*)\\);(?: +// (-?\\d+)\\b.*)?");
    private static final Pattern TABLE_CALL = Pattern.compile("`(\\w+)\\([a-z, ]*\\)`");

    public static void main(String[] args) throws Exception {
        Check check = new Check();
        String readme = Files.readString(Path.of("README.md"));
        Set<String> shown = new TreeSet<>();
        example(check, readme, shown);
        check.due("calls that the example shows", shown.isEmpty() ? 0 : 1, 1);
        check.due("calls that README.md tells, of the document's 25", told(readme).size(), 25);
        tests(check, readme);
        check.end();
    }

    private static void example(Check check, String readme, Set<String> shown) {
        int start = readme.indexOf("```java");
        int end = readme.indexOf("```", start + 7);
        check.due("an example in java", start >= 0 && end > start ? 1 : 0, 1);
        List<String> lines = readme.substring(start, end).lines().toList();
        AnswerSquare square = new AnswerSquare();
        for (String line : lines) {
            Matcher text = TEXT.matcher(line);
            if (text.find()) {
                Check.type(square, text.group(1));
            }
            Matcher call = CALL.matcher(line.trim());
            if (line.startsWith("square.")) {
                check.due("can be read: " + line, call.matches() && call.group(3) != null ? 1 : 0, 1);
                String words = call.group(1) + " " + call.group(2).replace(",", " ");
                check.due("README.md: " + line, Call.of(words).on(square), Long.parseLong(call.group(3)));
                shown.add(call.group(1));
            }
        }
    }

    /** The calls of the table, as far as the class has them. */
    private static Set<String> told(String readme) {
        Set<String> there = new TreeSet<>();
        for (java.lang.reflect.Method method : AnswerSquare.class.getDeclaredMethods()) {
            if (java.lang.reflect.Modifier.isPublic(method.getModifiers())) {
                there.add(method.getName());
            }
        }
        Set<String> names = new TreeSet<>();
        Matcher call = TABLE_CALL.matcher(readme);
        while (call.find()) {
            names.add(call.group(1));
        }
        names.retainAll(there);
        return names;
    }

    /** Each test of the project is named in README.md, and each that is named there is there. */
    private static void tests(Check check, String readme) throws Exception {
        Set<String> there = new TreeSet<>();
        try (var files = Files.list(Path.of("src/test/java"))) {
            files.map(file -> file.getFileName().toString()).filter(name -> name.endsWith("Test.java"))
                    .forEach(name -> there.add(name.substring(0, name.length() - 5)));
        }
        Set<String> named = new TreeSet<>();
        Matcher name = Pattern.compile("`(\\w+Test)`").matcher(readme);
        while (name.find()) {
            named.add(name.group(1));
        }
        check.due("tests named in README.md " + named + ", there are " + there, named.equals(there) ? 1 : 0, 1);
    }
}
