import java.lang.reflect.InvocationTargetException;
import java.lang.reflect.Method;
import java.nio.file.Files;
import java.nio.file.Path;
import java.util.Arrays;
import java.util.Comparator;

/**
 * What the tests of the document's sentences share. A test is a method named promiseN_..., whose first row is
 * sentence(N, the words of the document); the words must stand in ../shared/DOC.md where that can be read.
 */
final class Edges {
    private static final Path DOC = Path.of("../shared/DOC.md");
    private static int wrong;
    private static int told;
    private static int promise;
    private static String where = "";
    private static String document = "";

    private Edges() { }

    /** The sentence that the rows below it test; several stretches of it are parted by " ... ". */
    static void sentence(int number, String words) {
        promise = number;
        told++;
        where = "promise " + number + ", \"" + words + "\"";
        for (String stretch : words.split(" \\.\\.\\. ")) {
            if (!document.isEmpty() && !document.contains(stretch)) fail("these words are not in the document: " + stretch);
        }
    }

    static void fail(String what) {
        wrong++;
        System.out.println(where + ": " + what);
    }

    static void due(String call, long got, long want) {
        if (got != want) fail(call + " answered " + got + ", due is " + want);
    }

    static void due(String call, boolean got, boolean want) {
        due(call, got ? 1 : 0, want ? 1 : 0);
    }

    static void due(String call, String got, String want) {
        if (!got.equals(want)) fail(call + " answered " + got + ", due is " + want);
    }

    static int feed(FlockGaps x, String text) {
        int many = x.count(8);
        for (int i = 0; i < text.length(); i += 24) {
            long[] abc = new long[3];
            for (int j = 0; j < 24; j++) {
                abc[j / 8] = abc[j / 8] << 8 | (i + j < text.length() ? text.charAt(i + j) : 0);
            }
            many = x.feed(abc[0], abc[1], abc[2]);
        }
        return many;
    }

    static int read(FlockGaps x, String text) {
        feed(x, text);
        return x.flock();
    }

    /** A new object with that flock. */
    static FlockGaps of(String text) {
        FlockGaps x = new FlockGaps();
        due("flock() of \"" + text + "\"", read(x, text), 0);
        return x;
    }

    /** The text is ahead + rest; its fault lies where the rest begins. */
    static void fault(String ahead, String rest, int kind) {
        int got = read(new FlockGaps(), ahead + rest);
        if (got != kind + 16 * ahead.length()) {
            fail("flock() of \"" + ahead + rest + "\" answered " + got % 16 + " + 16 * " + got / 16
                    + ", due is " + kind + " + 16 * " + ahead.length());
        }
    }

    /** So many ewes without a bell, named a, b, c and so on. */
    static String ewes(int many) {
        return beasts(many, "ewe", 0);
    }

    static String beasts(int many, String kind, int tone) {
        StringBuilder s = new StringBuilder();
        for (int i = 0; i < many; i++) s.append("beast ").append((char) ('a' + i)).append(' ').append(kind).append(" tone ").append(tone).append(';');
        return s.toString();
    }

    static String meadows(int many) {
        StringBuilder s = new StringBuilder();
        for (int i = 0; i < many; i++) s.append("meadow m").append((char) ('a' + i)).append(" grass 1 far 1;");
        return s.toString();
    }

    /** Where each lies, a sign each in base 17, "." for nowhere. */
    static String lie(FlockGaps x) {
        StringBuilder s = new StringBuilder();
        for (int b = 0; b < x.count(0); b++) {
            int place = x.beast(b, 2);
            s.append(place < 0 ? "." : Integer.toString(place, 17));
        }
        return s.toString();
    }

    /** All that can be asked of a small flock, but for the tape: alike if nothing changed. Some 60 calls for three beasts. */
    static String all(FlockGaps x) {
        StringBuilder s = new StringBuilder();
        for (int i = 0; i < 8; i++) s.append(x.count(i)).append(' ');
        for (int a = 0; a < x.count(0); a++) {
            for (int what = 0; what < 5; what++) s.append(x.beast(a, what)).append(' ');
            for (int b = 0; b < a; b++) s.append(x.liking(a, b)).append('/').append(x.beside(a, b)).append(' ');
            for (int m = 0; m < x.count(3); m++) s.append(x.odds(a, m, 0)).append('/').append(x.odds(a, m, 1)).append(' ');
        }
        for (int p = 0; p < x.count(1); p++) s.append(x.place(p)).append(' ');
        s.append(x.settled()).append(' ').append(x.fits()).append(' ').append(x.sure(false)).append(' ').append(x.sure(true));
        return s.toString();
    }

    private static void read() {
        try {
            document = Files.isReadable(DOC) ? Files.readString(DOC).replaceAll("\\s+", " ") : "";
        } catch (java.io.IOException e) {
            document = "";
        }
    }

    private static void runOne(Method test) {
        int before = told;
        where = test.getName();
        try {
            test.setAccessible(true);
            test.invoke(null);
        } catch (InvocationTargetException e) {
            fail("threw " + e.getCause());
        } catch (ReflectiveOperationException e) {
            fail("can't be run: " + e);
        }
        if (told != before + 1) fail(test.getName() + " tells " + (told - before) + " sentences, not one");
        if (!test.getName().startsWith("promise" + promise + "_")) fail(test.getName() + " is not named by its promise");
    }

    /** Runs every method of the class that is named promise... and ends with exit code 1 if an answer was wrong. */
    static void run(Class<?> tests) {
        read();
        Method[] methods = tests.getDeclaredMethods();
        Arrays.sort(methods, Comparator.comparing(Method::getName));
        for (Method m : methods) if (m.getName().startsWith("promise")) runOne(m);
        if (told == 0) fail("no test is in " + tests);
        System.out.println(wrong == 0 ? told + " sentences hold" : wrong + " answers are not as due");
        if (wrong != 0) System.exit(1);
    }
}
