import java.io.File;
import java.lang.reflect.Method;
import java.nio.file.Files;
import java.nio.file.Path;
import java.util.Set;
import java.util.TreeSet;
import java.util.regex.Matcher;
import java.util.regex.Pattern;

/** README.md is tried: each call of its examples answers as it says there, and it names every test. */
public final class ReadmeTest {
    private static final String NEW = "ShotBoard film = new ShotBoard();";
    private static final Pattern BLOCK = Pattern.compile("(?ms)^```java\n(.*?)^```$");
    private static final Pattern CALL = Pattern.compile("film\\.(\\w+)\\(([-\\d, ]*)\\); +// (-?\\d+)(:.*)?");
    private static final Pattern ROW = Pattern.compile("(?m)^\\| (-\\d) +\\| (`\\w+`)? *\\| \\S.*\\|$");
    private static final Check check = new Check("ReadmeTest");

    private final Set<String> called = new TreeSet<>();
    private final Set<String> answered = new TreeSet<>();

    private ReadmeTest() {
    }

    public static void main(String[] args) throws Exception {
        String text = Files.readString(Path.of("README.md"));
        new ReadmeTest().examples(text);
        answersBelowNought(text);
        testsAreNamed(text);
        check.end();
    }

    private void examples(String text) throws Exception {
        check.on("README.md, the examples");
        Matcher blocks = BLOCK.matcher(text);
        int many = 0;
        while (blocks.find()) {
            many++;
            example(blocks.group(1));
        }
        check.due("examples", many, 2);
        for (Method method : ShotBoard.class.getDeclaredMethods()) {
            String name = method.getName();
            boolean isOpen = java.lang.reflect.Modifier.isPublic(method.getModifiers());
            check.holds(name + " stands in no example", !isOpen || called.contains(name));
        }
        check.holds("refusals in the examples: " + answered,
            answered.containsAll(Set.of("-1", "-2", "-3", "-5", "-9")));
    }

    private void example(String block) throws Exception {
        ShotBoard film = null;
        for (String line : block.split("\n")) {
            Matcher call = CALL.matcher(line);
            if (line.equals(NEW)) {
                film = new ShotBoard();
            } else if (call.matches() && film != null) {
                called.add(call.group(1));
                answered.add(call.group(3));
                check.due(line, answer(film, call.group(1), call.group(2)), Integer.parseInt(call.group(3)));
            } else {
                check.holds("a line that cannot be tried: " + line, line.isEmpty() || line.startsWith("// "));
            }
        }
    }

    private static int answer(ShotBoard film, String name, String told) throws Exception {
        String[] parts = told.isEmpty() ? new String[0] : told.split(", ");
        Class<?>[] types = new Class<?>[parts.length];
        Object[] numbers = new Object[parts.length];
        for (int i = 0; i < parts.length; i++) {
            types[i] = int.class;
            numbers[i] = Integer.valueOf(parts[i]);
        }
        return (Integer) ShotBoard.class.getMethod(name, types).invoke(film, numbers);
    }

    private static void answersBelowNought(String text) {
        check.on("README.md, what -1, -2, -3, -5 and -9 mean");
        StringBuilder rows = new StringBuilder();
        Matcher row = ROW.matcher(text);
        while (row.find()) {
            rows.append(row.group(1)).append(row.group(2) == null ? "" : row.group(2)).append(' ');
        }
        check.holds("the table has " + rows, rows.toString().equals("-1`NONE` -2`FULL` -3`STATE` -5 -9 "));
    }

    private static void testsAreNamed(String text) {
        check.on("README.md, how to run its tests");
        check.holds(".ci/run is not named", text.contains("\n    .ci/run\n"));
        Set<String> there = new TreeSet<>();
        for (File file : new File("src/test/java").listFiles()) {
            String name = file.getName();
            if (name.endsWith("Test.java")) {
                there.add(name.substring(0, name.length() - ".java".length()));
            }
        }
        Set<String> named = new TreeSet<>();
        Matcher name = Pattern.compile("`(\\w+Test)`").matcher(text);
        while (name.find()) {
            named.add(name.group(1));
        }
        check.holds("named " + named + ", there are " + there, named.equals(there));
    }
}
