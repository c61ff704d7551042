import java.io.IOException;
import java.nio.file.Files;
import java.nio.file.Path;
import java.util.List;
import java.util.Set;
import java.util.TreeSet;
import java.util.regex.Matcher;
import java.util.regex.Pattern;
import java.util.stream.Collectors;
import java.util.stream.Stream;

/** What README.md says is so: the answers in its example, and the list of the tests. */
public final class ReadmeTest {
    private static final Path PROJECT = Path.of(System.getProperty("project", "."));

    private static final Pattern CALL = Pattern.compile("cabinet\\.(\\w+)\\((.*)\\); +// (throws )?([^:]+): .*");

    private static void fail(String fault) {
        System.out.println("README.md: " + fault);
        System.exit(1);
    }

    /** The lines of the example, in the form that Script reads. */
    private static String example(List<String> readme) {
        int start = readme.indexOf("```java");
        int end = start + 1 + readme.subList(start + 1, readme.size()).indexOf("```");
        if (start < 0 || end - start < 3) {
            fail("there is no example");
        }
        StringBuilder script = new StringBuilder();
        for (String line : readme.subList(start + 2, end)) {
            Matcher m = CALL.matcher(line);
            if (!m.matches()) {
                fail("not a call with its answer: " + line);
            }
            String arguments = m.group(2).replace(",", "").replaceAll("L$", "");
            String answer = (m.group(3) == null ? "" : "throws.") + m.group(4);
            script.append((m.group(1) + " " + arguments).strip()).append(" = ").append(answer).append('\n');
        }
        return script.toString();
    }

    private static Set<String> testsToldOf(List<String> readme) {
        Set<String> told = new TreeSet<>();
        for (String line : readme) {
            if (line.startsWith("- ")) {
                Matcher m = Pattern.compile("`(\\w+Test)`").matcher(line);
                while (m.find()) {
                    told.add(m.group(1));
                }
            }
        }
        return told;
    }

    private static Set<String> testsThatAreThere() throws IOException {
        try (Stream<Path> files = Files.list(PROJECT.resolve("src/test/java"))) {
            return files.map(f -> f.getFileName().toString().replace(".java", ""))
                    .collect(Collectors.toCollection(TreeSet::new));
        }
    }

    public static void main(String[] args) throws IOException {
        List<String> readme = Files.readAllLines(PROJECT.resolve("README.md"));
        if (!testsToldOf(readme).equals(testsThatAreThere())) {
            fail("it tells of the tests " + testsToldOf(readme) + ", there are " + testsThatAreThere());
        }
        Script.run("README.md, the example", example(readme));
        Script.end();
    }
}
