import java.io.IOException;
import java.lang.reflect.InvocationTargetException;
import java.lang.reflect.Method;
import java.lang.reflect.Modifier;
import java.nio.file.Files;
import java.nio.file.Path;
import java.util.List;
import java.util.TreeSet;
import java.util.regex.Matcher;
import java.util.regex.Pattern;

/** The calls that README.md shows answer as it says, and what it names is there. Run from the project's directory. */
public final class ReadmeTest {
    private static final Pattern BLOCK = Pattern.compile("(?s)```java\n(.*?)```");
    private static final Pattern CALL =
        Pattern.compile("x\\.(\\w+)\\((-?\\d+(?:, -?\\d+)*)?\\); +// (-?\\d+|NONE|BAD|NO|FULL)(?:: \\S.*)?");
    private static final String MADE = "PhaseLoads x = new PhaseLoads();";

    private static PhaseLoads x;
    private static int calls;

    public static void main(String[] args) throws ReflectiveOperationException, IOException {
        String text = Files.readString(Path.of("README.md"));
        everyCallThatIsShown(text);
        whatIsNamed(text);
        Check.end();
    }

    private static void everyCallThatIsShown(String text) throws ReflectiveOperationException {
        TreeSet<String> shown = new TreeSet<>();
        Matcher blocks = BLOCK.matcher(text);
        while (blocks.find()) {
            for (String line : blocks.group(1).split("\n")) {
                oneLine(line, shown);
            }
        }
        for (Method method : PhaseLoads.class.getDeclaredMethods()) {
            if (Modifier.isPublic(method.getModifiers())) {
                Check.holds("README.md shows " + method.getName(), shown.contains(method.getName()));
            }
        }
    }

    private static void oneLine(String line, TreeSet<String> shown) throws ReflectiveOperationException {
        if (line.equals(MADE)) {
            x = new PhaseLoads();
            calls = 0;
            return;
        }
        Matcher call = CALL.matcher(line);
        boolean told = call.matches() && x != null;
        Check.holds("a call and its answer: " + line, told);
        if (told) {
            calls++;
            Check.holds("no more calls on one object than are promised", calls <= Run.MOST_CALLS);
            shown.add(call.group(1));
            Check.due("README.md, " + line, answer(call.group(1), call.group(2)), due(call.group(3)));
        }
    }

    private static long answer(String name, String written) throws ReflectiveOperationException {
        String[] numbers = written == null ? new String[0] : written.split(", ");
        Class<?>[] types = new Class<?>[numbers.length];
        Object[] arguments = new Object[numbers.length];
        for (int i = 0; i < numbers.length; i++) {
            types[i] = int.class;
            arguments[i] = Integer.parseInt(numbers[i]);
        }
        try {
            return ((Number) PhaseLoads.class.getMethod(name, types).invoke(x, arguments)).longValue();
        } catch (NoSuchMethodException | InvocationTargetException wrong) {
            Check.holds("README.md, a call of the face that throws nothing: " + name + ", " + wrong, false);
            return Long.MIN_VALUE;
        }
    }

    private static long due(String written) throws ReflectiveOperationException {
        return Character.isLetter(written.charAt(0))
            ? PhaseLoads.class.getField(written).getInt(null)
            : Long.parseLong(written);
    }

    private static void whatIsNamed(String text) throws IOException {
        for (String file : List.of(".ci/run", "src/main/java/PhaseLoads.java", "../shared/tests", "../shared/DOC.md",
                "../shared/LANGUAGE.md")) {
            Check.holds("README.md names " + file, text.contains(file));
            Check.holds("it is there: " + file, Files.exists(Path.of(file)));
        }
        Check.holds(".ci/run can be run", Files.isExecutable(Path.of(".ci/run")));
        TreeSet<String> named = new TreeSet<>();
        Matcher tests = Pattern.compile("\\b[A-Z]\\w*Test\\b").matcher(text);
        while (tests.find()) {
            named.add(tests.group());
        }
        TreeSet<String> there = new TreeSet<>();
        try (var files = Files.list(Path.of("src/test/java"))) {
            files.map(file -> file.getFileName().toString()).filter(name -> name.endsWith("Test.java"))
                .forEach(name -> there.add(name.substring(0, name.length() - ".java".length())));
        }
        Check.holds("README.md names each test and no other: " + named + " " + there, named.equals(there));
    }
}
