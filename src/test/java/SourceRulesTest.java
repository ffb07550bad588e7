import java.io.IOException;
import java.lang.reflect.Modifier;
import java.nio.file.Files;
import java.nio.file.Path;
import java.util.regex.Matcher;
import java.util.regex.Pattern;
import java.util.stream.Stream;

/** Those rules of LANGUAGE.md that the source's words or the compiled class show. Runs in the project's folder. */
public final class SourceRulesTest {
    private static final Path SOURCE = Path.of("src", "main", "java", "BallastClub.java");
    private static final String[] BANNED_WORDS = {
        "package", "import", "throw", "throws", "try", "catch", "finally", "synchronized", "assert", "volatile",
        "transient", "native", "strictfp", "var", "yield", "protected", "equals", "hashCode", "toString", "Object",
        "System\\.(?!arraycopy)\\w+", "\\w+Exact", "Thread", "Random", "Exception", "Error"};

    public static void main(String[] args) throws IOException {
        Check check = new Check("SourceRulesTest");
        String source = Files.readString(SOURCE);
        check.part("signs");
        check.holds("a sign isn't 1 to 127", source.chars().allMatch(sign -> sign >= 1 && sign <= 127));
        String code = source.replaceAll("(?s)/\\*.*?\\*/", " ").replaceAll("//[^\n]*", " ");
        checkBanned(check, code);
        checkStatics(check, code);
        checkLengths(check, code);
        checkSizes(check);
        checkObjects(check, code);
        check.finish();
    }

    private static void checkBanned(Check check, String code) {
        check.part("rules 3, 4, 6 and 13");
        for (String word : BANNED_WORDS) {
            check.holds("has the word " + word, !Pattern.compile("\\b" + word + "\\b").matcher(code).find());
        }
        check.part("rule 2");
        check.holds("has a lambda", !code.contains("->"));
        check.holds("has a method reference", !code.contains("::"));
        Matcher inside = Pattern.compile("\n +([a-z ]*)\\b(class|record|enum|interface)\\b").matcher(code);
        while (inside.find()) {
            check.holds("a class inside that isn't static", inside.group(1).contains("static"));
        }
    }

    private static void checkStatics(Check check, String code) {
        check.part("rule 5");
        Matcher statics = Pattern.compile("\\bstatic\\b([^;{(]*)[;={(]").matcher(code);
        while (statics.find()) {
            String words = statics.group(1);
            boolean isField = statics.group().endsWith("=") || statics.group().endsWith(";");
            check.holds("not final: " + words.trim(), !isField || words.contains("final"));
            check.holds("a static block", !words.isBlank() || !statics.group().endsWith("{"));
        }
    }

    /** A method's lines, from its head to the brace that stands below the head's first sign. */
    private static void checkLengths(Check check, String code) {
        check.part("rule 11");
        String[] lines = code.split("\n");
        int head = -1;
        for (int line = 0; line < lines.length; line++) {
            if (lines[line].matches(" +[a-zA-Z].*\\).*\\{") && !lines[line].matches(" +(if|for|while|switch|do)\\b.*")
                    && head < 0) {
                head = line;
                int parameters = lines[line].replaceAll(".*\\((.*)\\).*", "$1").split(",").length;
                check.holds("more than seven parameters: " + lines[line].trim(), parameters <= 7);
            } else if (head >= 0 && lines[line].equals(lines[head].replaceAll("\\S.*", "") + "}")) {
                check.holds("more than sixty lines: " + lines[head].trim(), line - head < 60);
                head = -1;
            }
        }
        check.holds("a method without an end", head < 0);
    }

    /** "The file has at most some twelve classes, and a class some twenty fields beside its constants." */
    private static void checkSizes(Check check) {
        check.part("rule 11");
        Class<?>[] insides = BallastClub.class.getDeclaredClasses();
        check.holds("more than twelve classes", insides.length < 12);
        checkFields(check, BallastClub.class);
        for (Class<?> inside : insides) {
            checkFields(check, inside);
        }
    }

    private static void checkFields(Check check, Class<?> one) {
        long fields = Stream.of(one.getDeclaredFields())
                .filter(field -> !Modifier.isStatic(field.getModifiers())).count();
        check.holds(one + " has more than twenty fields", fields <= 20);
    }

    /** Stricter than the rule: objects are made by constructors alone, so that no call uses up the room. */
    private static void checkObjects(Check check, String code) {
        check.part("rule 12");
        String head = "";
        for (String line : code.split("\n")) {
            if (line.matches(" +[a-zA-Z].*\\).*\\{") && !line.matches(" +(if|for|while|switch|do)\\b.*")) {
                head = line.trim();
            }
            boolean isConstructor = head.matches("((public|private) )?[A-Z]\\w*\\(.*");
            check.holds("an object is made in " + head, isConstructor || !line.matches(".*\\bnew\\b.*"));
        }
    }
}
