import java.io.IOException;
import java.nio.file.Files;
import java.nio.file.Path;
import java.util.List;
import java.util.TreeSet;
import java.util.regex.Matcher;
import java.util.regex.Pattern;
import java.util.stream.Collectors;
import java.util.stream.Stream;

/** What README.md shows is so: its calls, made in their order, answer what stands behind them. */
public final class ReadmeTest {
    private static final Checks C = new Checks();
    private static final Path TESTS = Path.of("src/test/java");
    private static final Pattern NEW = Pattern.compile("KnockFinder x = new KnockFinder\\(\\); +// .*");
    private static final Pattern CALL = Pattern.compile("x\\.(\\w+)\\(([^)]*)\\); +// (-?\\d+)(?:: .*)?");
    private static final Pattern QUOTED = Pattern.compile("\"([^\"]*)\"");

    private static KnockFinder x = null;
    private static final TreeSet<String> SHOWN = new TreeSet<>();

    public static void main(String[] args) throws IOException {
        List<String> page = Files.readAllLines(Path.of("README.md"));
        boolean inBlock = false;
        for (String line : page) {
            if (line.startsWith("```")) {
                inBlock = line.equals("```java");
            } else if (inBlock && !line.isEmpty()) {
                follow(line);
            }
        }
        C.isTrue("the page shows " + SHOWN, SHOWN.size() >= 20);
        namesTests(String.join("\n", page));
        namesClasses(String.join("\n", page));
        C.isTrue(".ci/run can be run", Files.isExecutable(Path.of(".ci/run")));
        C.end();
    }

    private static void follow(String line) {
        Matcher call = CALL.matcher(line);
        if (NEW.matcher(line).matches()) {
            x = new KnockFinder();
        } else if (x != null && call.matches()) {
            SHOWN.add(call.group(1));
            C.due("README: " + line + ":", new Call(call.group(1), numbers(call.group(2))).on(x),
                Long.parseLong(call.group(3)));
            textIsAsQuoted(call.group(1), call.group(2), line);
        } else {
            C.isTrue("README: a line that can be followed: " + line, false);
        }
    }

    private static int[] numbers(String list) {
        if (list.isEmpty()) {
            return new int[0];
        }
        return Stream.of(list.split(", ")).mapToInt(Integer::decode).toArray();
    }

    /** A text that the page quotes behind feed() is what is fed, behind report() what is told. */
    private static void textIsAsQuoted(String name, String list, String line) {
        Matcher quoted = QUOTED.matcher(line);
        if (!quoted.find()) {
            return;
        }
        if (name.equals("report")) {
            C.isTrue("README: " + line, Checks.report(x, numbers(list)[0]).equals(quoted.group(1)));
            return;
        }
        StringBuilder fed = new StringBuilder();
        for (int four : numbers(list)) {
            for (int shift = 24; shift >= 0; shift -= 8) {
                fed.append((char) (four >> shift & 255));
            }
        }
        C.isTrue("README: " + line, name.equals("feed") && fed.toString().replace("\0", "").equals(quoted.group(1)));
    }

    /** The page tells of each test, and of none that isn't there. */
    private static void namesTests(String page) throws IOException {
        TreeSet<String> there;
        try (Stream<Path> files = Files.list(TESTS)) {
            there = files.map(p -> p.getFileName().toString()).filter(n -> n.endsWith("Test.java"))
                .map(n -> n.replace(".java", "")).collect(Collectors.toCollection(TreeSet::new));
        }
        TreeSet<String> told = new TreeSet<>();
        Matcher name = Pattern.compile("`([A-Z]\\w*Test)`").matcher(page);
        while (name.find()) {
            told.add(name.group(1));
        }
        C.isTrue("README tells of the tests " + told + ", there are " + there, told.equals(there));
        Matcher helper = Pattern.compile("`(support/\\w+\\.java)`").matcher(page);
        while (helper.find()) {
            C.isTrue("README: " + helper.group(1), Files.exists(TESTS.resolve(helper.group(1))));
        }
    }

    /** Of classes inside it names those there are. */
    private static void namesClasses(String page) {
        TreeSet<String> there = new TreeSet<>();
        for (Class<?> c : KnockFinder.class.getDeclaredClasses()) {
            there.add(c.getSimpleName());
        }
        String built = page.substring(page.indexOf("## How it is built"), page.indexOf("## How to run"));
        Matcher name = Pattern.compile("`([A-Z]\\w*)`").matcher(built);
        while (name.find()) {
            C.isTrue("README: a class " + name.group(1), there.contains(name.group(1)));
        }
    }
}
