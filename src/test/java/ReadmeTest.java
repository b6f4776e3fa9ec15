import java.io.IOException;
import java.nio.file.Files;
import java.nio.file.Path;
import java.util.regex.Matcher;
import java.util.regex.Pattern;

/** README.md tells no answer that the class does not give, and no test that is not there. */
public final class ReadmeTest {
    private static final Path README = Path.of("README.md");
    private static final Path TESTS = Path.of("src/test/java");
    private static final Pattern EXAMPLE = Pattern.compile("(?s)```java\n(.*?)```");
    private static final Pattern CALL = Pattern.compile("x\\.(\\w+)\\((.*)\\); +// (-?\\d+)(:.*)?");
    private static final String BEGIN = "TuneSchool x = new TuneSchool();";
    private static final Due due = new Due();

    public static void main(String[] args) throws IOException {
        String readme = Files.readString(README);
        Matcher example = EXAMPLE.matcher(readme);
        while (example.find()) {
            run(example.group(1));
        }
        allTestsAreTold(readme);
        due.end();
    }

    private static void run(String example) {
        TuneSchool x = null;
        for (String line : example.split("\n")) {
            Matcher call = CALL.matcher(line);
            if (line.equals(BEGIN)) {
                x = new TuneSchool();
            } else if (call.matches()) {
                String words = call.group(1) + " " + call.group(2).replace(",", "");
                tell(Script.call(x, words.strip().split(" ")), Integer.parseInt(call.group(3)), line);
            } else {
                tell(0, 1, line);
            }
        }
    }

    private static void tell(int got, int want, String line) {
        if (got != want) {
            System.out.println("answered " + got + ": " + line);
        }
        due.is(want, got);
    }

    private static void allTestsAreTold(String readme) throws IOException {
        try (var files = Files.list(TESTS)) {
            for (Path file : (Iterable<Path>) files::iterator) {
                String name = file.getFileName().toString().replace(".java", "");
                tell(readme.contains("`" + name + "`") ? 1 : 0, 1, name + " is not told");
            }
        }
        Matcher told = Pattern.compile("`(\\w+Test)`").matcher(readme);
        while (told.find()) {
            tell(Files.exists(TESTS.resolve(told.group(1) + ".java")) ? 1 : 0, 1, told.group(1) + " is not there");
        }
    }
}
