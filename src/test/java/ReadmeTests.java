import java.lang.reflect.Method;
import java.lang.reflect.Modifier;
import java.nio.file.Files;
import java.nio.file.Path;
import java.util.ArrayList;
import java.util.List;
import java.util.Set;
import java.util.TreeSet;
import java.util.regex.Matcher;
import java.util.regex.Pattern;
import java.util.stream.Collectors;
import java.util.stream.Stream;

/** What README.md says: its calls and their answers, the methods, the tests that there are. */
public final class ReadmeTests {
    private static final Pattern CALL = Pattern.compile(
            "planner\\.(\\w+)\\(([^)]*)\\); +// (-?\\d+)(:.*)?");
    private static final String MADE = "SwarmPlanner planner = new SwarmPlanner();";

    private ReadmeTests() {
    }

    public static void main(String[] args) throws Exception {
        String text = Files.readString(Path.of("README.md"));
        playExamples(text);
        namesEachMethod(text);
        namesEachError(text);
        namesEachTest(text);
        Check.end();
    }

    private static List<String> exampleRows(String text) {
        List<String> rows = new ArrayList<>();
        Matcher block = Pattern.compile("(?s)```java\n(.*?)```").matcher(text);
        while (block.find()) {
            rows.addAll(List.of(block.group(1).split("\n")));
        }
        return rows;
    }

    private static void playExamples(String text) {
        List<String> rows = exampleRows(text);
        Check.due("README.md makes one planner, first", rows.indexOf(MADE), 0);
        SwarmPlanner planner = new SwarmPlanner();
        PlainModel model = new PlainModel();
        for (String row : rows.subList(1, rows.size())) {
            Matcher call = CALL.matcher(row);
            boolean read = call.matches();
            Check.that("README.md tells a call and its answer: " + row, read);
            if (read) {
                int[] numbers = numbers(call.group(2));
                int due = Integer.parseInt(call.group(3));
                Check.due("README.md: " + row, Calls.answer(planner, call.group(1), numbers), due);
                Check.due("README.md, by the model: " + row, model.call(call.group(1), numbers), due);
            }
        }
    }

    private static int[] numbers(String arguments) {
        Matcher each = Pattern.compile("'(.)'|(-?\\d+)").matcher(arguments);
        return each.results().mapToInt(found -> found.group(1) != null ? found.group(1).charAt(0)
                : Integer.parseInt(found.group(2))).toArray();
    }

    private static void namesEachMethod(String text) {
        String list = text.substring(text.indexOf("Methods by what they are for"),
                text.indexOf("## Tests"));
        for (Method method : SwarmPlanner.class.getDeclaredMethods()) {
            if (Modifier.isPublic(method.getModifiers())) {
                Check.that("README.md tells what " + method.getName() + " is for",
                        list.contains("`" + method.getName() + "`"));
            }
        }
    }

    private static void namesEachError(String text) throws Exception {
        for (String name : List.of("NONE", "BAD", "STATE", "FULL")) {
            int code = SwarmPlanner.class.getField(name).getInt(null);
            Check.that("README.md has " + name, text.contains("| " + code + " | `" + name + "` |"));
        }
    }

    private static void namesEachTest(String text) throws Exception {
        Set<String> named = new TreeSet<>();
        Matcher name = Pattern.compile("`(\\w+Tests)`").matcher(text);
        while (name.find()) {
            named.add(name.group(1));
        }
        Set<String> there;
        try (Stream<Path> files = Files.list(Path.of("src/test/java"))) {
            there = files.map(file -> file.getFileName().toString())
                    .filter(file -> file.endsWith(".java"))
                    .map(file -> file.replace(".java", ""))
                    .collect(Collectors.toCollection(TreeSet::new));
        }
        Check.that("README.md names the tests that there are: " + there, named.equals(there));
    }
}
