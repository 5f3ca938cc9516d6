import java.io.IOException;
import java.nio.file.Files;
import java.nio.file.Path;
import java.util.ArrayList;
import java.util.List;
import java.util.regex.Matcher;
import java.util.regex.Pattern;

/** README.md: the calls that it shows answer what stands behind them, and it names each test. */
public final class ReadmeTest {
    private static final Pattern CALL = Pattern.compile("hall\\.(.*\\)); +// (throws )?([^: ]+)(: .*)?");

    public static void main(String[] args) throws IOException {
        String page = Files.readString(Path.of("README.md"));
        calls(page);
        tests(page);
        Due.end();
    }

    private static void calls(String page) {
        int begin = page.indexOf("```java\n");
        String block = page.substring(begin, page.indexOf("```\n", begin + 4));
        LearnHall hall = new LearnHall();
        List<String> unread = new ArrayList<>();
        int made = 0;
        for (String line : block.split("\n")) {
            Matcher matcher = CALL.matcher(line);
            if (matcher.matches()) {
                made++;
                String due = (matcher.group(2) == null ? "" : "throws.") + matcher.group(3);
                Due.is("README.md: " + line, due, Calls.answer(hall, matcher.group(1).replace("'", "")));
            } else if (!line.isEmpty() && !line.startsWith("//")) {
                unread.add(line);
            }
        }
        Due.is("README.md: calls with an answer", true, made > 0);
        Due.is("README.md: lines of the block without a call", "[```java, LearnHall hall = new LearnHall();]", unread);
    }

    private static void tests(String page) {
        String[] names = Path.of("src/test/java").toFile().list();
        Due.is("tests are found", true, names != null && names.length > 0);
        for (int i = 0; names != null && i < names.length; i++) {
            String name = names[i].replace(".java", "");
            Due.is("README.md names " + name, true, !name.endsWith("Test") || page.contains("`" + name + "`"));
        }
    }
}
