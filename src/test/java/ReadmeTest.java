import java.io.IOException;
import java.nio.file.Files;
import java.nio.file.Path;
import java.util.ArrayList;
import java.util.List;
import java.util.TreeSet;
import java.util.regex.Matcher;
import java.util.regex.Pattern;
import java.util.stream.Collectors;
import java.util.stream.Stream;

/** README.md: the calls that it shows stand here, in its order, with the answers that it gives; and it names all tests. */
public final class ReadmeTest {
    private static final Path README = Path.of("README.md");
    private static final Path TESTS = Path.of("src", "test", "java");
    /** A call, then its answer, then perhaps a colon and a remark. */
    private static final Pattern SHOWN = Pattern.compile("(house\\..*\\)); +// (throws )?([-\\w]+)(:.*)?");
    private static final Pattern TEST_NAME = Pattern.compile("\\w+Test\\b");

    public static void main(String[] args) throws IOException {
        Check.dueTo("README.md");
        theCallsShown();
        theyAreTheSameCalls();
        allTestsAreNamed();
        Check.finish();
    }

    private static void shows(Object answer, Check.Call call) {
        Check.due("a call that it shows", answer, call);
    }

    private static void theCallsShown() {
        SettleHouse house = new SettleHouse();

        shows(50, () -> house.fund(0, 3, 50));
        shows(1000, () -> house.fund(1, SettleHouse.NONE, 1000));

        shows(0, () -> house.tell(0, 1, true, 3, 30, 600, 0, 1));
        shows(0, () -> house.trade(0, 0));
        shows(0, () -> house.tell(1, 0, false, 3, 30, 600, 0, 1));
        shows(1, () -> house.trade(0, 0));
        shows(1, () -> house.trade(0, 1));

        shows(1, () -> house.nextDay());
        shows(2, () -> house.trade(0, 0));
        shows(30, () -> house.has(1, 3));
        shows(600, () -> house.has(0, SettleHouse.NONE));
        shows(600, () -> house.settled(0, 2));
        shows(-1, () -> house.settled(1, 2));

        shows(1, () -> house.tell(0, 1, true, 3, 40, 400, 1, 0));
        shows(1, () -> house.tell(1, 0, false, 3, 40, 400, 1, 0));
        shows(1, () -> house.rank(1, 2, true));
        shows(true, () -> house.holiday(4));
        shows(5, () -> house.business(1, 1));
        shows(0, () -> house.goTo(5));
        shows(20, () -> house.trade(1, 2));
        shows(1, () -> house.trade(1, 7));

        shows(10, () -> house.fund(2, 5, 10));
        shows(1, () -> house.fund(3, 6, 1));
        shows(2, () -> house.tell(2, 3, true, 5, 10, 70, 5, 0));
        shows(2, () -> house.tell(3, 2, false, 5, 10, 70, 5, 0));
        shows(3, () -> house.tell(3, 2, true, 6, 1, 70, 5, 0));
        shows(3, () -> house.tell(2, 3, false, 6, 1, 70, 5, 0));
        shows(2, () -> house.link(2, 3));
        shows(true, () -> house.hold(2, 3, true));
        shows(0, () -> house.nextDay());
        shows(true, () -> house.hold(2, 3, false));
        shows(2, () -> house.nextDay());

        shows(1, () -> house.cancel(1, 0));
        shows(3, () -> house.cancel(1, 1));
        shows(3, () -> house.count(2));
        shows(8, () -> house.date(2));
        shows(0, () -> house.astray());

        shows("throws.IllegalArgumentException", () -> house.fund(16, 3, 1));
        shows("throws.IllegalStateException", () -> house.cancel(1, 0));
    }

    /** The rows above, made a second time out of the text of README.md. */
    private static void theyAreTheSameCalls() throws IOException {
        List<String> made = new ArrayList<>();
        for (String line : Files.readAllLines(README)) {
            Matcher row = SHOWN.matcher(line);
            if (row.matches()) {
                String answer = row.group(2) == null ? row.group(3) : "\"throws." + row.group(3) + "\"";
                made.add("shows(" + answer + ", () -> " + row.group(1) + ");");
            } else {
                Check.due("a call without an answer: " + line, false, () -> line.startsWith("house."));
            }
        }
        List<String> here = Files.readAllLines(TESTS.resolve("ReadmeTest.java")).stream()
                .map(String::trim).filter(line -> line.startsWith("shows(")).collect(Collectors.toList());
        Check.due("the calls that it shows", String.join("\n", here), () -> String.join("\n", made));
    }

    private static void allTestsAreNamed() throws IOException {
        TreeSet<String> named = new TreeSet<>();
        Matcher names = TEST_NAME.matcher(Files.readString(README));
        while (names.find()) {
            named.add(names.group());
        }
        try (Stream<Path> files = Files.list(TESTS)) {
            TreeSet<String> tests = files.map(file -> file.getFileName().toString()).filter(name -> name.endsWith("Test.java"))
                    .map(name -> name.replace(".java", "")).collect(Collectors.toCollection(TreeSet::new));
            Check.due("the tests that it names", tests, () -> named);
        }
    }
}
