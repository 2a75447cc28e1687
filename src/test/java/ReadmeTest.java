import java.io.IOException;
import java.nio.file.Files;
import java.nio.file.Path;
import java.util.List;
import java.util.regex.Matcher;
import java.util.regex.Pattern;
import java.util.stream.Stream;

/** What README.md says of the class and of its tests, as it stands: its example is played, and it names every test. */
public final class ReadmeTest {
    private static final Pattern TEXT = Pattern.compile("for \\(char c : \"(\\w+)\"\\.toCharArray\\(\\)\\) \\{");
    private static final Pattern CALL = Pattern.compile("x\\.(\\w+)\\(([^)]*)\\);\\s+// (-?\\d+|UNKNOWN|BAD|LATE|FULL|NONE): .*");

    public static void main(String[] args) throws IOException {
        Check check = new Check("ReadmeTest");
        String readme = Files.readString(Path.of("README.md"));
        int from = readme.indexOf("```java\n");
        int to = readme.indexOf("```", from + 8);
        check.isTrue("there is an example", from >= 0 && to > from);
        playExample(readme.substring(from + 8, to), check);
        namesCalls(readme, check);
        namesTests(readme, check);
        check.end();
    }

    private static void playExample(String example, Check check) {
        Run run = new Run();
        for (String line : example.split("\n")) {
            Matcher text = TEXT.matcher(line);
            Matcher call = CALL.matcher(line);
            if (text.matches()) {
                run.play("say(" + text.group(1) + ")", line, check);
            } else if (call.matches()) {
                String handed = call.group(2).replaceAll("[ L]", "");
                run.play(call.group(1) + "(" + handed + ")=" + call.group(3), line, check);
            } else {
                check.isTrue("a line that can be played: " + line, line.isEmpty() || line.equals("}")
                    || line.equals("SleepHarbour x = new SleepHarbour();") || line.startsWith("    x.write(c);"));
            }
        }
    }

    private static void namesCalls(String readme, Check check) {
        for (java.lang.reflect.Method m : SleepHarbour.class.getMethods()) {
            if (m.getDeclaringClass() == SleepHarbour.class) {
                check.isTrue("the example has " + m.getName(), readme.contains("x." + m.getName() + "("));
            }
        }
    }

    private static void namesTests(String readme, Check check) throws IOException {
        List<String> files;
        try (Stream<Path> all = Files.list(Path.of("src/test/java"))) {
            files = all.map(file -> file.getFileName().toString().replace(".java", "")).sorted().toList();
        }
        for (String name : files) {
            check.isTrue("README.md names " + name, readme.contains("`" + name + "`"));
        }
    }
}
