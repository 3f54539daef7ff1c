import java.io.IOException;
import java.nio.file.Files;
import java.nio.file.Path;
import java.util.ArrayList;
import java.util.HashMap;
import java.util.List;
import java.util.Map;
import java.util.TreeSet;
import java.util.regex.Matcher;
import java.util.regex.Pattern;
import java.util.stream.Stream;

/** README.md: its examples answer what they say, and it names just the tests that there are. */
public final class ReadmeTest {
    private static final Check CHECK = new Check("ReadmeTest");
    private static final Pattern CALL =
            Pattern.compile("(?:int (\\w+) = )?x\\.(\\w+\\(.*\\));\\s*// (-?\\d+): .*");
    private static final Pattern FED = Pattern.compile("for \\(char c : \"(.*)\"\\.toCharArray\\(\\)\\) x\\.feed\\(c\\);");

    public static void main(String[] args) throws IOException {
        String page = Files.readString(Path.of("README.md"));
        theExamples(page);
        theTests(page);
        CHECK.end();
    }

    private static List<String> examples(String page) {
        List<String> lines = new ArrayList<>();
        Matcher block = Pattern.compile("(?s)```java\n(.*?)```").matcher(page);
        while (block.find()) {
            lines.addAll(block.group(1).lines().toList());
        }
        return lines;
    }

    /** All of them in one run, as they stand one below the other. */
    private static void theExamples(String page) {
        Run run = new Run(CHECK, "README.md");
        Map<String, Long> named = new HashMap<>();
        List<String> lines = examples(page);
        CHECK.due("the first line is '" + lines.get(0) + "'", lines.indexOf("EveryNinth x = new EveryNinth();"), 0);
        for (String line : lines.subList(1, lines.size())) {
            Matcher fed = FED.matcher(line);
            Matcher call = CALL.matcher(line);
            if (fed.matches()) {
                run.feed(fed.group(1));
                continue;
            }
            CHECK.holds("a call and what it answers: " + line, call.matches());
            String words = call.group(2);
            for (String name : named.keySet()) {
                words = words.replaceAll("\\b" + name + "\\b", named.get(name).toString());
            }
            long told = Long.parseLong(call.group(3));
            run.due(words, told);
            if (call.group(1) != null) {
                named.put(call.group(1), told);
            }
        }
    }

    private static void theTests(String page) throws IOException {
        TreeSet<String> there = new TreeSet<>();
        try (Stream<Path> files = Files.list(Path.of("tests"))) {
            files.map(file -> file.getFileName().toString()).filter(file -> file.endsWith("Test.java"))
                    .forEach(file -> there.add(file.substring(0, file.length() - 5)));
        }
        TreeSet<String> told = new TreeSet<>();
        Matcher row = Pattern.compile("(?m)^\\| `(\\w+Test)` \\|").matcher(page);
        while (row.find()) {
            told.add(row.group(1));
        }
        CHECK.holds("README.md tells of " + told + ", there are " + there, told.equals(there));
    }
}
