import java.io.IOException;
import java.nio.file.Files;
import java.nio.file.Path;
import java.util.List;
import java.util.Map;
import java.util.TreeMap;
import java.util.regex.Matcher;
import java.util.regex.Pattern;

/**
 * The example of README.md: its lines stand here too, and what its comments tell of an answer, as far
 * as the colon, is what the class answers.
 */
final class ReadmeTest {
    private static final Path README = Path.of("README.md");
    private static final Path ITSELF = Path.of("src/test/java/ReadmeTest.java");
    private static final Pattern TOLD = Pattern.compile("\\w+ (\\w+) = .*; +// ([^:]+):.*");

    private ReadmeTest() {
    }

    private static Map<String, Object> answers() {
        Speedrunnery house = new Speedrunnery();
        house.setRate(1, 2);
        house.putItem(1, 4);
        house.door(0, 1, 60, 20, 0, -1);
        house.door(1, 2, 100, 0, 1 << 4, -1);
        house.door(0, 2, 30, 0, 0, 7);
        int any = house.category();
        int clean = house.category();
        house.rule(any, 0, 2, 0, 'r');
        house.rule(clean, 0, 2, 1 << 7, 'g');
        long glitched = house.route(any);
        long walked = house.route(clean);
        house.split(clean, 1);
        house.input(0);
        house.input(1);
        char verdict = house.judge(clean);
        int run = house.submit(3, clean);
        house.verify(run, 1);
        char state = house.verify(run, 2);
        long gold = house.gold(clean, 0);
        int day = house.nextDay(7);
        int record = house.recordOn(clean, 5);
        house.ban(3);
        int days = house.stood(run, clean);
        Map<String, Object> named = new TreeMap<>();
        named.putAll(Map.of("any", any, "clean", clean, "glitched", glitched, "walked", walked));
        named.putAll(Map.of("verdict", verdict, "run", run, "state", state, "gold", gold));
        named.putAll(Map.of("day", day, "record", record, "days", days));
        return named;
    }

    private static List<String> example() throws IOException {
        List<String> lines = Files.readAllLines(README);
        int first = lines.indexOf("```java") + 1;
        int length = lines.subList(first, lines.size()).indexOf("```");
        return lines.subList(first, first + Math.max(0, length));
    }

    public static void main(String[] args) throws IOException {
        Map<String, Object> named = answers();
        List<String> here = Files.readAllLines(ITSELF).stream().map(String::trim).toList();
        int told = 0;
        for (String line : example()) {
            String code = line.split("//")[0].trim();
            Check.is("README.md: " + code + " stands in this test", true, () -> here.contains(code));
            Matcher comment = TOLD.matcher(line);
            if (comment.matches()) {
                told++;
                Check.is("README.md: " + code, comment.group(2), () -> String.valueOf(named.get(comment.group(1))));
            }
        }
        int answered = told;
        Check.is("README.md tells each answer that the example keeps", named.size(), () -> answered);
        Check.end();
    }
}
