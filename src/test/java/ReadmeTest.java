import java.io.IOException;
import java.lang.reflect.Method;
import java.nio.file.Files;
import java.nio.file.Path;
import java.util.Arrays;
import java.util.List;
import java.util.TreeSet;
import java.util.regex.Matcher;
import java.util.regex.Pattern;
import java.util.stream.Collectors;
import java.util.stream.Stream;

/** README.md: each answer of its example, and that it lists the tests that there are. */
public final class ReadmeTest {
    private static final Pattern TYPED = Pattern.compile(
        "for \\(char b : \"(.*)\"\\.toCharArray\\(\\)\\) x\\.type\\((\\d), b\\);.*");
    private static final Pattern CALLED =
        Pattern.compile("x\\.(\\w+)\\(([-\\d, ]*)\\);\\s*// (-?\\d+).*");
    private static final Pattern LISTED = Pattern.compile("\\| (\\w+Test) \\|.*");

    public static void main(String[] args) throws IOException, ReflectiveOperationException {
        List<String> lines = Files.readAllLines(Path.of("README.md"));
        example(lines);
        tests(lines);
        Check.end();
    }

    private static void example(List<String> lines) throws ReflectiveOperationException {
        NineBooks x = new NineBooks();
        int calls = 0;
        for (String line : lines) {
            Matcher typed = TYPED.matcher(line);
            Matcher called = CALLED.matcher(line);
            if (typed.matches()) {
                Check.type(x, Integer.parseInt(typed.group(2)), typed.group(1));
            } else if (called.matches()) {
                calls++;
                long answer = call(x, called.group(1), called.group(2));
                Check.due("README: " + line, answer, Long.parseLong(called.group(3)));
            } else {
                Check.due("README tells an answer: " + line, line.startsWith("x.") ? 1 : 0, 0);
            }
        }
        Check.due("README has an example", calls > 0 ? 1 : 0, 1);
    }

    private static long call(NineBooks x, String name, String told)
            throws ReflectiveOperationException {
        Object[] numbers = told.isEmpty() ? new Object[0]
            : Arrays.stream(told.split(", ")).map(Integer::valueOf).toArray();
        Class<?>[] ints = new Class<?>[numbers.length];
        Arrays.fill(ints, int.class);
        Method method = NineBooks.class.getMethod(name, ints);
        return ((Number) method.invoke(x, numbers)).longValue();
    }

    private static void tests(List<String> lines) throws IOException {
        TreeSet<String> listed = new TreeSet<>();
        for (String line : lines) {
            Matcher matcher = LISTED.matcher(line);
            if (matcher.matches()) {
                listed.add(matcher.group(1));
            }
        }
        TreeSet<String> there;
        try (Stream<Path> files = Files.list(Path.of("src/test/java"))) {
            there = files.map(file -> file.getFileName().toString())
                .filter(name -> name.endsWith("Test.java"))
                .map(name -> name.substring(0, name.length() - ".java".length()))
                .collect(Collectors.toCollection(TreeSet::new));
        }
        Check.due("README lists " + listed + " of " + there, listed.equals(there) ? 1 : 0, 1);
    }
}
