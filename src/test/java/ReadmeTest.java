import java.io.IOException;
import java.nio.file.Files;
import java.nio.file.Path;
import java.util.List;
import java.util.regex.Matcher;
import java.util.regex.Pattern;
import java.util.stream.Stream;

/** README.md: its example answers as it says, and each method and each test file is named. Run from the project's root. */
public final class ReadmeTest {
    private static final Path DOC = Path.of("../shared/DOC.md");
    private static int wrong;
    private static String page = "";

    private static void fail(String what) {
        wrong++;
        System.out.println("README.md: " + what);
    }

    private static void row(String call, Object got) {
        Matcher m = Pattern.compile("(?m)^x\\." + Pattern.quote(call) + "; +// ([^:]+): ").matcher(page);
        if (!m.find()) fail("x." + call + " is not in the example");
        else if (!m.group(1).equals("" + got)) fail("x." + call + " answers " + got + ", not " + m.group(1));
    }

    private static void feed(FlockGaps x, String text) {
        for (int i = 0; i < text.length(); i += 24) {
            long[] abc = new long[3];
            for (int j = 0; j < 24; j++) {
                abc[j / 8] = abc[j / 8] << 8 | (i + j < text.length() ? text.charAt(i + j) : 0);
            }
            x.feed(abc[0], abc[1], abc[2]);
        }
    }

    private static void example() {
        Matcher text = Pattern.compile("String text = \"([^\"]*)\";").matcher(page);
        if (!text.find()) {
            fail("the example has no text");
            return;
        }
        FlockGaps x = new FlockGaps();
        feed(x, text.group(1));
        row("flock()", x.flock());
        row("evening(1)", x.evening(1));
        row("place(0)", x.place(0));
        row("liking(0, 1)", x.liking(0, 1));
        row("seen(0, true)", x.seen(0, true));
        row("fits()", x.fits());
        row("sure(false)", x.sure(false));
        row("looks(0)", x.looks(0));
        row("looks(1)", x.looks(1));
        row("mark(0, false)", x.mark(0, false));
        row("away(0, false)", x.away(0, false));
        row("odds(0, 0, 0)", x.odds(0, 0, 0));
        row("search(0, 0)", x.search(0, 0));
        row("parted(1, 1, 0, 0)", x.parted(1, 1, 0, 0));
        row("undo()", x.undo());
        row("count(7)", x.count(7));
    }

    /** The document says a promise as: ## Promise 4: beast, a row between, `int beast(..)`: its words. */
    private static void promises() throws IOException {
        if (!Files.isReadable(DOC)) return;
        Matcher promise = Pattern.compile("## Promise (\\d+): [^\n]*\n\n`([^`]*)`: ([^\n]*)").matcher(Files.readString(DOC));
        int many = 0;
        while (promise.find()) {
            many++;
            String due = "| " + promise.group(1) + " | `" + promise.group(2) + "` | " + promise.group(3) + " |";
            if (!page.contains("\n" + due + "\n")) fail("this row is missing: " + due);
        }
        if (many != 25) fail("the document has " + many + " promises, not 25");
    }

    private static void files() throws IOException {
        try (Stream<Path> all = Files.list(Path.of("src/test/java"))) {
            List<String> names = all.map(p -> p.getFileName().toString()).toList();
            for (String name : names) if (!page.contains("\n| `" + name + "` | ")) fail("it does not say what " + name + " is for");
            Matcher named = Pattern.compile("\n\\| `(\\w+\\.java)` \\| ").matcher(page);
            while (named.find()) if (!names.contains(named.group(1))) fail("there is no " + named.group(1));
        }
        if (!page.contains("\n    .ci/run\n")) fail("it does not say how to run the tests");
    }

    public static void main(String[] args) throws IOException {
        page = Files.readString(Path.of("README.md"));
        example();
        promises();
        files();
        System.out.println(wrong == 0 ? "README.md says what is" : wrong + " rows of README.md are wrong");
        if (wrong != 0) System.exit(1);
    }
}
