import java.util.ArrayList;
import java.util.List;
import java.util.Random;

/** Random runs of calls (from fixed seeds) on the class and on the model: all answers must be alike. */
public final class ModelTest {
    private static final String[] KINDS = {"ewe", "leader", "twin", "blind", "lame", "foreign"};
    private static final String[] WORDS = {"field", "beast", "tone", "like", "lie", "meadow", "grass", "far", "stray", "ewe",
        "leader", "twin", "blind", "lame", "foreign", "not", "and", "or", "liking", "place", "room", "old", "edge", "friends",
        "a", "b", "zz", "abcdefgh", "abcdefghi", "0", "1", "9", "10", "99", "100", "9999", "12345", "0007", "(", ")", "<", "=",
        "+", "-", "*", ";", "?", "A", ",", "\n"};

    private final Random random;
    private final List<String> log = new ArrayList<>();
    private FlockGaps real = new FlockGaps();
    private Model model = new Model();
    private int wrong;
    private static final int[] FAULTS = new int[16];

    private ModelTest(long seed) { random = new Random(seed); }

    private int upTo(int n) { return random.nextInt(n); }
    private boolean yes() { return random.nextBoolean(); }
    private boolean once(int in) { return random.nextInt(in) == 0; }
    private String pick(String... of) { return of[upTo(of.length)]; }

    private String part(boolean lie, int within) {
        int r = upTo(within >= (once(30) ? 6 : 4) ? 5 : 8);
        if (r == 0) return "" + upTo(once(4) ? 10000 : 12);
        if (r <= 4) return lie ? pick("tone", "lame", "blind", "liking", "place", "room", "old", "edge")
                : pick("tone", "lame", "blind", "grass", "far", "friends");
        if (r == 5) return "not " + part(lie, within + 1);
        return "(" + expr(lie, within + 1) + ")";
    }

    private String product(boolean lie, int within) {
        String s = part(lie, within);
        while (once(3)) s += pick("*", " * ") + part(lie, within);
        return s;
    }

    private String sum(boolean lie, int within) {
        String s = product(lie, within);
        while (once(3)) s += pick("+", "-", " + ", "\n- ") + product(lie, within);
        return s;
    }

    private String expr(boolean lie, int within) {
        String s = sum(lie, within);
        if (once(4)) s += pick("<", "=", " < ", " = ") + sum(lie, within);
        while (once(4)) {
            s += pick(" and ", " or ") + sum(lie, within);
            if (once(4)) s += pick("<", "=") + sum(lie, within);
        }
        return s;
    }

    private String flockText() {
        List<String> parts = new ArrayList<>();
        int beasts = once(5) ? 12 + upTo(2) : upTo(12);
        int least = Math.max(beasts, 1);
        int places = least >= 16 ? 16 : least + upTo(17 - least);
        if (once(6)) places = 1 + upTo(18);
        List<String> names = new ArrayList<>();
        boolean fieldAhead = yes();
        if (fieldAhead) parts.add("field " + places + " ;");
        int meadows = once(8) ? 7 : upTo(7);
        for (int i = 0; i < beasts; i++) {
            String name = i == 3 && yes() ? "old" : "" + (char) ('a' + i);
            names.add(name);
            String kind = yes() ? "ewe" : KINDS[upTo(6)];
            parts.add("beast " + name + " " + kind + " tone " + upTo(once(3) ? 10 : 3) + ";");
        }
        int likes = beasts < 2 ? 0 : upTo(beasts * 2);
        List<String> pairs = new ArrayList<>();
        for (int i = 0; i < likes; i++) {
            int a = upTo(beasts), b = upTo(beasts);
            String pair = Math.min(a, b) + "-" + Math.max(a, b);
            if ((a == b || pairs.contains(pair)) && !once(60)) continue;
            pairs.add(pair);
            parts.add("like " + names.get(a) + " " + names.get(b) + " " + (1 + upTo(once(2) ? 99 : 5)) + ";");
        }
        for (int i = 0; i < meadows; i++) {
            parts.add("meadow m" + (char) ('a' + i) + " grass " + upTo(once(2) ? 100 : 4) + " far " + (1 + upTo(once(2) ? 99 : 4)) + ";");
        }
        if (once(2)) parts.add(upTo(parts.size() + 1), "lie " + expr(true, 0) + ";");
        if (once(2)) parts.add(upTo(parts.size() + 1), "stray " + expr(false, 0) + ";");
        if (!fieldAhead && yes()) parts.add("field " + places + ";");
        String text = String.join(pick(" ", "", "\n"), parts);
        return once(3) ? spoilt(text) : text;
    }

    private String spoilt(String text) {
        StringBuilder s = new StringBuilder(text);
        for (int i = 0; i < 1 + upTo(2); i++) {
            int at = upTo(s.length() + 1);
            switch (upTo(5)) {
                case 0: s.insert(at, " " + pick(WORDS) + " "); break;
                case 1: s.insert(at, pick(WORDS)); break;
                case 2: if (at < s.length()) s.deleteCharAt(at); break;
                case 3: s.setLength(at); break;
                default:
                    int end = Math.min(s.length(), at + upTo(8));
                    s.replace(at, end, " " + pick(WORDS) + " ");
            }
        }
        return s.toString();
    }

    private void feed(String text) {
        for (int i = 0; i < text.length();) {
            long[] abc = new long[3];
            for (int j = 0; j < 24; j++) {
                int sign = i < text.length() ? text.charAt(i++) : pick("\0", "\7", "\177").charAt(0);
                abc[j / 8] = abc[j / 8] << 8 | sign;
            }
            same("feed(" + abc[0] + ", " + abc[1] + ", " + abc[2] + ")", real.feed(abc[0], abc[1], abc[2]), model.feed(abc[0], abc[1], abc[2]));
        }
    }

    private void same(String call, long got, long due) {
        log.add(call + " = " + got);
        if (got != due) {
            wrong++;
            System.out.println(String.join("\n", log));
            System.out.println("  but due is " + due);
        }
    }

    private void same(String call, boolean got, boolean due) { same(call, got ? 1 : 0, due ? 1 : 0); }

    private void told() {
        String text = flockText();
        log.add("-- " + text);
        feed(text);
        if (once(40)) feed("x".repeat(1000));
        int fault = real.flock();
        same("flock()", fault, model.flock());
        FAULTS[fault & 15]++;
    }

    private int wild(int n) {
        if (!once(25)) return upTo(n);
        int[] edges = {-1, n, n + 1, -2, Integer.MIN_VALUE, Integer.MAX_VALUE, 1 << 30, 31, 32, 33};
        return edges[upTo(edges.length)];
    }

    private void call() {
        int n = Math.max(1, model.n());
        int a = wild(n), b = wild(n), p = wild(model.told.places), i = wild(9), m = wild(Math.max(1, model.told.meadows.size()));
        boolean x = yes();
        switch (upTo(26)) {
            case 0: same("beast(" + a + "," + i + ")", real.beast(a, i), model.beast(a, i)); break;
            case 1: same("liking(" + a + "," + b + ")", real.liking(a, b), model.liking(a, b)); break;
            case 2: same("place(" + p + ")", real.place(p), model.place(p)); break;
            case 3: case 4: same("away(" + a + "," + x + ")", real.away(a, x), model.away(a, x)); break;
            case 5: case 6: { int k = once(4) ? wild(51) : 1; same("evening(" + k + ")", real.evening(k), model.evening(k)); break; }
            case 7: same("settled()", real.settled(), model.settled()); break;
            case 8: same("beside(" + a + "," + b + ")", real.beside(a, b), model.beside(a, b)); break;
            case 9: { int k = once(20) ? 9999 + upTo(2) : wild(6); same("friends(" + k + ")", real.friends(k), model.friends(k)); break; }
            case 10: case 11: same("seen(" + p + "," + x + ")", real.seen(p, x), model.seen(p, x)); break;
            case 12: { int t = wild(10), k = once(4) ? wild(13) : upTo(3); same("heard(" + t + "," + k + ")", real.heard(t, k), model.heard(t, k)); break; }
            case 13: { int k = 1 + wild(once(3) ? 99 : 4); same("uneasy(" + a + "," + k + "," + x + ")", real.uneasy(a, k, x), model.uneasy(a, k, x)); break; }
            case 14: if (once(3)) same("clear()", real.clear(), model.clear()); break;
            case 15: same("fits()", real.fits(), model.fits()); break;
            case 16: { int k = wild(Math.max(1, model.fits())); same("fit(" + k + ")", real.fit(k), model.fit(k)); break; }
            case 17: same("sure(" + x + ")", real.sure(x), model.sure(x)); break;
            case 18: { int k = wild(2); same("looks(" + k + ")", real.looks(k), model.looks(k)); break; }
            case 19: { int k = wild(2); same("odds(" + a + "," + m + "," + k + ")", real.odds(a, m, k), model.odds(a, m, k)); break; }
            case 20: case 21: { int k = wild(8); same("search(" + a + "," + k + ")", real.search(a, k), model.search(a, k)); break; }
            case 22: { int k = wild(n + 1), w = wild(1 << n) & random.nextInt(), o = (yes() ? wild(1 << n) & random.nextInt() & ~w : wild(1 << n)), h = wild(2);
                same("parted(" + k + "," + w + "," + o + "," + h + ")", real.parted(k, w, o, h), model.parted(k, w, o, h)); break; }
            case 23: if (once(2)) same("undo()", real.undo(), model.undo()); break;
            case 24: { int k = wild(4); boolean back = once(3); same("mark(" + k + "," + back + ")", real.mark(k, back), model.mark(k, back)); break; }
            default: same("count(" + i + ")", real.count(i), model.count(i));
        }
    }

    private void everything() {
        for (int i = -1; i < 10; i++) same("count(" + i + ")", real.count(i), model.count(i));
        for (int b = 0; b < model.n(); b++) {
            for (int w = -1; w < 6; w++) same("beast(" + b + "," + w + ")", real.beast(b, w), model.beast(b, w));
            for (int o = 0; o < model.n(); o++) {
                same("liking(" + b + "," + o + ")", real.liking(b, o), model.liking(b, o));
                same("beside(" + b + "," + o + ")", real.beside(b, o), model.beside(b, o));
            }
        }
        for (int p = 0; p < 17; p++) same("place(" + p + ")", real.place(p), model.place(p));
        same("looks(0)", real.looks(0), model.looks(0));
        same("looks(1)", real.looks(1), model.looks(1));
    }

    private int run() {
        for (int t = 0; t < 3 && wrong == 0; t++) {
            if (!once(20)) told();
            for (int i = 0; i < 60 && wrong == 0; i++) call();
            if (wrong == 0) everything();
        }
        return wrong;
    }

    public static void main(String[] args) {
        int runs = args.length > 0 ? Integer.parseInt(args[0]) : 2500;
        int failed = 0;
        for (int seed = 0; seed < runs && failed < 3; seed++) {
            ModelTest t = new ModelTest(seed);
            try {
                failed += t.run() > 0 ? 1 : 0;
            } catch (RuntimeException | StackOverflowError e) {
                System.out.println(String.join("\n", t.log));
                e.printStackTrace(System.out);
                failed++;
            }
        }
        System.out.println(runs + " runs, " + failed + " failed; flocks by fault: " + java.util.Arrays.toString(FAULTS));
        if (failed != 0) System.exit(1);
    }
}
