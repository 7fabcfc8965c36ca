import java.io.IOException;
import java.lang.reflect.Method;
import java.lang.reflect.Modifier;
import java.nio.file.Files;
import java.nio.file.Path;
import java.util.ArrayList;
import java.util.List;
import java.util.Map;
import java.util.TreeMap;
import java.util.regex.Matcher;
import java.util.regex.Pattern;
import java.util.stream.Collectors;
import java.util.stream.Stream;

/** README.md: its example answers what it says, its commands are those of .ci/run, and it names what there is. */
public final class ReadmeTest {
    private static final Path TESTS = Path.of("src/test/java");

    public static void main(String[] args) throws IOException {
        Path file = Path.of("README.md");
        String readme = Files.exists(file) ? Files.readString(file) : "";
        Due.is("README.md is there and is not empty", readme.isBlank() ? 0 : 1, 1);
        exampleIsHere(blocks(readme, "java"));
        answersAreSo(blocks(readme, "java"), example());
        commandsAreThose(blocks(readme, "sh"));
        namesWhatThereIs(readme);
        Due.end("ReadmeTest");
    }

    private static List<String> blocks(String readme, String kind) {
        List<String> lines = new ArrayList<>();
        Matcher block = Pattern.compile("(?s)```" + kind + "\n(.*?)```").matcher(readme);
        while (block.find()) {
            lines.addAll(block.group(1).lines().toList());
        }
        Due.is("README.md has " + kind, lines.isEmpty() ? 0 : 1, 1);
        return lines;
    }

    private static Map<String, Integer> example() {
        // ---- from README.md
        DearLetters post = new DearLetters();
        String town = "b20 m15 f05 w01 w12";            // a bearer, a miser, a friend, two paths
        post.text(0, town.length());
        for (int i = 0; i < town.length(); i++) {
            post.put(0, i, town.charAt(i));
        }
        int bearers = post.town(0);                     // 3
        int letter = post.send(0, 2, 30, 2);            // 0: from 0 to 2, worth 30, less by 2 a day
        int cheapest = post.cheapest(letter, 1);        // 4; the route 0, 1, 2 is in row 1
        int refused = post.sell(letter, 2);             // STATE: 2 is not beside 0
        int price = post.sell(letter, 1);               // 1
        int day = post.days(1);                         // 1
        int last = post.sell(letter, 2);                // 1004: read, for 4
        int one = post.bearer(2, 1);                    // 1, and the purse by asked()
        int purse = post.asked();                       // 1
        // ---- till here
        Due.rowIs("the route in row 1", post, 1, 0, 1, 2);
        return Map.of("bearers", bearers, "letter", letter, "cheapest", cheapest, "refused", refused, "price", price,
            "day", day, "last", last, "one", one, "purse", purse);
    }

    private static void exampleIsHere(List<String> readme) throws IOException {
        List<String> lines = Files.readAllLines(TESTS.resolve("ReadmeTest.java"));
        int from = lines.indexOf("        // ---- from README.md");
        int till = lines.indexOf("        // ---- till here");
        List<String> here = lines.subList(from + 1, till).stream().map(line -> line.substring(8)).toList();
        Due.is("the example of README.md is the one that is run here", here.equals(readme) ? 1 : 0, 1);
    }

    private static void answersAreSo(List<String> readme, Map<String, Integer> answers) {
        Map<String, Integer> said = new TreeMap<>();
        for (String line : readme) {
            Matcher answer = Pattern.compile("^int (\\w+) = .*// (STATE|-?\\d+)\\b.*").matcher(line);
            if (answer.matches()) {
                String value = answer.group(2);
                said.put(answer.group(1), value.equals("STATE") ? DearLetters.STATE : Integer.parseInt(value));
            }
        }
        Due.is("README.md says " + said + ", answers are " + answers, said.equals(answers) ? 1 : 0, 1);
    }

    private static void commandsAreThose(List<String> readme) throws IOException {
        List<String> run = Files.readAllLines(Path.of(".ci/run")).stream().map(String::strip)
            .filter(line -> line.startsWith("javac ") || line.startsWith("java "))
            .map(line -> line.replaceAll(" &&$", "")).toList();
        Due.is("README.md: " + readme + ", .ci/run: " + run, readme.equals(run) ? 1 : 0, 1);
    }

    private static void namesWhatThereIs(String readme) throws IOException {
        List<String> files;
        try (Stream<Path> all = Files.list(TESTS)) {
            files = all.map(file -> file.getFileName().toString().replace(".java", "")).collect(Collectors.toList());
        }
        for (String name : files) {
            Due.is("README.md names " + name, readme.contains("`" + name + "`") ? 1 : 0, 1);
        }
        for (Method call : DearLetters.class.getDeclaredMethods()) {
            boolean named = Modifier.isPrivate(call.getModifiers()) || readme.contains("`" + call.getName() + "`");
            Due.is("README.md names " + call.getName() + "()", named ? 1 : 0, 1);
        }
        for (Class<?> inside : DearLetters.class.getDeclaredClasses()) {
            String name = inside.getSimpleName();
            Due.is("README.md names " + name, readme.contains("`" + name + "`") ? 1 : 0, 1);
        }
        Matcher named = Pattern.compile("`(\\w+Test)`").matcher(readme);
        while (named.find()) {
            Due.is("README.md names " + named.group(1), files.contains(named.group(1)) ? 1 : 0, 1);
        }
    }
}
