import java.io.IOException;
import java.lang.reflect.Method;
import java.lang.reflect.Modifier;
import java.nio.file.Files;
import java.nio.file.Path;
import java.util.List;
import java.util.Map;
import java.util.TreeMap;
import java.util.regex.Matcher;
import java.util.regex.Pattern;
import java.util.stream.Stream;

/** README.md tells the truth: its example answers as told, and no call, refusal or test is left out. */
public final class ReadmeTest {
    private static final String PAGE = "README.md";
    private static final Path TESTS = Path.of("src/test/java");
    /** The document's calls with its own names for the arguments, and which refusals it promises of each. */
    private static final String[] DUE = {
        "write(letter) OUTSIDE FULL", "erase()", "fault()", "west() NOT", "evening(evening, what) UNKNOWN OUTSIDE",
        "bidder(bidder, what) UNKNOWN OUTSIDE", "as(bidder, kind) UNKNOWN OUTSIDE NOT",
        "eveningAs(evening, kind) UNKNOWN OUTSIDE NOT", "bid(bidder, n) UNKNOWN OUTSIDE NOT", "sale(z) OUTSIDE NOT",
        "price(evening, n) UNKNOWN OUTSIDE", "says(teller, evening, n) UNKNOWN OUTSIDE NOT", "undo() NOT",
        "keep(k) UNKNOWN", "back(k) UNKNOWN NOT", "gain(bidder, evening, price) UNKNOWN OUTSIDE",
        "limit(bidder) UNKNOWN NOT", "has(bidder) UNKNOWN NOT", "reply(bidder, what) UNKNOWN OUTSIDE NOT",
        "tempted() NOT", "cartel(what) OUTSIDE NOT", "otherwise() NOT", "season(bidder, what) UNKNOWN OUTSIDE",
        "bright(k, part) OUTSIDE", "score(teller) UNKNOWN", "best()", "seen(bidder, down) UNKNOWN OUTSIDE FULL",
        "forget()", "buyers()", "count(what) OUTSIDE"
    };
    private static final int ANSWERS_IN_EXAMPLE = 13;

    private static int wrong = 0;

    private static void check(String what, boolean holds) {
        if (!holds) {
            wrong++;
            System.out.println("not so: " + what);
        }
    }

    public static void main(String[] args) throws IOException, ReflectiveOperationException {
        String page = Files.readString(Path.of(PAGE));
        example(page);
        rows(page);
        numbers(page);
        tests(page);
        System.out.println(wrong + " things of " + PAGE + " are not so");
        if (wrong != 0) {
            System.exit(1);
        }
    }

    private static void example(String page) throws ReflectiveOperationException {
        Matcher block = Pattern.compile("(?s)```java\n(.*?)```").matcher(page);
        check("there is an example", block.find());
        String code = block.group(1);
        Matcher text = Pattern.compile("String text = \"([^\"]*)\";").matcher(code);
        check("the example has a text", text.find());
        SunsetSale sale = new SunsetSale();
        for (char letter : text.group(1).toCharArray()) {
            sale.write(letter);
        }
        int looked = 0;
        Matcher line = Pattern.compile("(?m)^sale\\.(\\w+)\\(([^)]*)\\); +// (-?\\d+):").matcher(code);
        while (line.find()) {
            int got = call(sale, line.group(1), line.group(2));
            check(line.group() + " (it answered " + got + ")", got == Integer.parseInt(line.group(3)));
            looked++;
        }
        check("the example's answers: " + looked, looked == ANSWERS_IN_EXAMPLE);
        check("a line of the example without an answer", Pattern.compile("(?m)^sale\\.").matcher(code).results().count()
            == looked);
    }

    private static int call(SunsetSale sale, String name, String given) throws ReflectiveOperationException {
        String[] parts = given.isBlank() ? new String[0] : given.split(", *");
        for (Method method : SunsetSale.class.getMethods()) {
            if (method.getName().equals(name) && method.getParameterCount() == parts.length) {
                Object[] numbers = Stream.of(parts).map(Integer::valueOf).toArray();
                return (Integer) method.invoke(sale, numbers);
            }
        }
        check("there is a call " + name, false);
        return 0;
    }

    private static void rows(String page) {
        Map<String, String> told = new TreeMap<>();
        Matcher row = Pattern.compile("(?m)^\\| `(\\w+\\([\\w, ]*\\))` \\| (.+) \\| ?(.*)\\|$").matcher(page);
        while (row.find()) {
            check("one row of " + row.group(1), !told.containsKey(row.group(1)));
            told.put(row.group(1), refusalsIn(row.group(3)));
        }
        long open = Stream.of(SunsetSale.class.getDeclaredMethods()).filter(m -> Modifier.isPublic(m.getModifiers()))
            .count();
        check("a row for each of " + open + " calls, there are " + told.size(), told.size() == open);
        for (String due : DUE) {
            String call = due.substring(0, due.indexOf(')') + 1);
            String refusals = due.substring(call.length());
            check(call + " is told with" + refusals + ", not with" + told.get(call), refusals.equals(told.get(call)));
        }
    }

    private static String refusalsIn(String cell) {
        StringBuilder found = new StringBuilder();
        Matcher word = Pattern.compile("`(\\w+)`").matcher(cell);
        while (word.find()) {
            found.append(' ').append(word.group(1));
        }
        return found.toString();
    }

    private static void numbers(String page) {
        check("UNKNOWN's number", page.contains("| `UNKNOWN` | " + SunsetSale.UNKNOWN + " |"));
        check("OUTSIDE's number", page.contains("| `OUTSIDE` | " + SunsetSale.OUTSIDE + " |"));
        check("NOT's number", page.contains("| `NOT` | " + SunsetSale.NOT + " |"));
        check("FULL's number", page.contains("| `FULL` | " + SunsetSale.FULL + " |"));
        check("NONE's number", page.contains("`NONE` (" + SunsetSale.NONE + ")"));
    }

    private static void tests(String page) throws IOException {
        check("how all tests are run", page.contains("\n.ci/run\n"));
        List<Path> files;
        try (Stream<Path> found = Files.list(TESTS)) {
            files = found.sorted().toList();
        }
        for (Path file : files) {
            String name = file.getFileName().toString().replace(".java", "");
            check("a line for " + name, page.contains("\n- `" + name + "`: "));
        }
    }
}
