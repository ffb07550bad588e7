import java.io.IOException;
import java.lang.reflect.Field;
import java.lang.reflect.Method;
import java.lang.reflect.Modifier;
import java.nio.file.Files;
import java.nio.file.Path;
import java.util.List;
import java.util.regex.Matcher;
import java.util.regex.Pattern;
import java.util.stream.Stream;

/** README.md tells what is so. Runs in the project's folder. */
public final class ReadmeTest {
    private static final Path TESTS = Path.of("src", "test", "java");
    private static final Pattern EXAMPLE = Pattern.compile("club\\.(\\w+)\\((.*?)\\);\\s+// (-?\\d+)\\b.*");

    private final Check check = new Check("ReadmeTest");
    private final String readme;

    private ReadmeTest(String readme) {
        this.readme = readme;
    }

    public static void main(String[] args) throws IOException, ReflectiveOperationException {
        new ReadmeTest(Files.readString(Path.of("README.md"))).run();
    }

    private void run() throws IOException, ReflectiveOperationException {
        checkExample();
        checkCalls();
        checkConstants();
        checkTests();
        check.finish();
    }

    /** Each line of the example answers the number behind it. */
    private void checkExample() throws ReflectiveOperationException {
        check.part("the example");
        BallastClub club = new BallastClub();
        int lines = 0;
        for (String line : readme.split("\n")) {
            if (line.startsWith("club.")) {
                lines++;
                Matcher matcher = EXAMPLE.matcher(line);
                boolean isTold = matcher.matches();
                check.holds("an example without an answer: " + line, isTold);
                if (isTold) {
                    check.due(line, answer(club, matcher.group(1), matcher.group(2)), Long.parseLong(matcher.group(3)));
                }
            }
        }
        check.holds("no example", lines > 0);
    }

    private static int answer(BallastClub club, String name, String arguments) throws ReflectiveOperationException {
        String[] words = arguments.isEmpty() ? new String[0] : arguments.split(", ");
        Object[] values = new Object[words.length];
        for (int index = 0; index < words.length; index++) {
            boolean isCharacter = words[index].startsWith("'");
            values[index] = isCharacter ? (Object) words[index].charAt(1) : (Object) Integer.valueOf(words[index]);
        }
        for (Method method : BallastClub.class.getMethods()) {
            if (method.getName().equals(name) && method.getParameterCount() == values.length) {
                return (int) method.invoke(club, values);
            }
        }
        throw new NoSuchMethodException(name);
    }

    private void checkCalls() {
        check.part("the table of calls");
        for (Method method : BallastClub.class.getDeclaredMethods()) {
            if (Modifier.isPublic(method.getModifiers())) {
                Matcher row = Pattern.compile("\n\\| `" + method.getName() + "\\((.*?)\\)` \\|").matcher(readme);
                boolean isTold = row.find();
                check.holds("no row of " + method.getName(), isTold);
                check.due("parameters of " + method.getName(), isTold ? parameters(row.group(1)) : -1,
                        method.getParameterCount());
                check.holds("two rows of " + method.getName(), !row.find());
            }
        }
    }

    private static long parameters(String words) {
        return Stream.of(words.split(", ")).filter(word -> !word.isEmpty()).count();
    }

    private void checkConstants() throws ReflectiveOperationException {
        check.part("the table of constants");
        for (Field field : BallastClub.class.getDeclaredFields()) {
            if (Modifier.isPublic(field.getModifiers())) {
                String row = "\n| `" + field.getName() + "` | " + field.getInt(null) + " | ";
                check.holds("no row of " + field.getName(), readme.contains(row));
            }
        }
    }

    private void checkTests() throws IOException {
        check.part("the table of tests");
        List<String> names;
        try (Stream<Path> files = Files.list(TESTS)) {
            names = files.map(file -> file.getFileName().toString()).filter(name -> name.endsWith("Test.java"))
                    .map(name -> name.replace(".java", "")).toList();
        }
        for (String name : names) {
            check.holds("no row of " + name, readme.contains("\n| `" + name + "` | "));
        }
        Matcher row = Pattern.compile("\n\\| `(\\w+Test)` \\|").matcher(readme);
        while (row.find()) {
            check.holds("no such test: " + row.group(1), names.contains(row.group(1)));
        }
    }
}
