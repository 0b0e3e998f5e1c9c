import java.io.IOException;
import java.nio.file.Files;
import java.nio.file.Path;
import java.util.Arrays;
import java.util.TreeSet;
import java.util.regex.Matcher;
import java.util.regex.Pattern;

/** README.md: each call that it shows is answered as stands behind it, and it names every call of the face. */
public final class ReadmeTest {
    private static final Check CHECK = new Check("ReadmeTest");
    private static final Pattern SHOWN = Pattern.compile("village\\.(\\w+)\\(([-0-9, ]*)\\); +// (-?[0-9]+)(:.*)?");
    private static final Pattern BLOCK = Pattern.compile("(?s)```java\n(.*?)```");

    private ReadmeTest() {
    }

    public static void main(String[] args) throws IOException {
        String readme = Files.readString(Path.of("README.md"));
        answers(readme);
        namesOfCalls(readme);
        CHECK.finish();
    }

    private static void answers(String readme) {
        CHECK.about("the answers shown");
        FiddlerDebts village = new FiddlerDebts();
        Matcher block = BLOCK.matcher(readme);
        CHECK.due("there is an example", 1, block.find() ? 1 : 0);
        for (String line : block.group(1).split("\n")) {
            if (line.startsWith("village.")) {
                Matcher shown = SHOWN.matcher(line);
                CHECK.due("an answer stands behind " + line, 1, shown.matches() ? 1 : 0);
                int answer = Calls.ask(village, shown.group(1), numbers(shown.group(2)));
                CHECK.due(line, Integer.parseInt(shown.group(3)), answer);
            }
        }
    }

    private static int[] numbers(String given) {
        return given.isEmpty() ? new int[0] : Arrays.stream(given.split(", ")).mapToInt(Integer::parseInt).toArray();
    }

    private static void namesOfCalls(String readme) {
        CHECK.about("the calls named");
        for (String call : new TreeSet<>(Calls.names(FiddlerDebts.class))) {
            CHECK.due("`" + call + "`", 1, readme.contains("`" + call + "`") ? 1 : 0);
        }
    }
}
