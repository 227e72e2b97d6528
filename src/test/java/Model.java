import java.util.ArrayDeque;
import java.util.ArrayList;
import java.util.Arrays;
import java.util.Deque;
import java.util.HashMap;
import java.util.List;
import java.util.Map;
import java.util.Set;
import java.util.TreeMap;
import java.util.function.IntPredicate;

/** The document told a second time, by other means and without care for speed, to compare the class with. */
final class Model {
    static final List<String> KINDS = List.of("ewe", "leader", "twin", "blind", "lame", "foreign");
    static final Set<String> NO_NAMES = Set.of("field", "beast", "tone", "like", "lie", "meadow", "grass", "far", "stray",
            "ewe", "leader", "twin", "blind", "lame", "foreign", "not", "and", "or");
    static final Set<String> LIE_FACTS = Set.of("tone", "lame", "blind", "liking", "place", "room", "old", "edge");
    static final Set<String> STRAY_FACTS = Set.of("tone", "lame", "blind", "grass", "far", "friends");

    interface Expr { int of(Map<String, Integer> facts); }

    static final class Fault extends RuntimeException {
        private static final long serialVersionUID = 1L;
        final int code;
        Fault(int kind, int place) { super(null, null, false, false); code = kind + 16 * place; }
    }

    record Token(String text, int place, char sort) { }
    record Beast(String name, int kind, int tone) { }
    record Meadow(String name, int grass, int far) { }

    static final class Told {
        int places = 12;
        boolean field;
        final List<Beast> beasts = new ArrayList<>();
        final List<Meadow> meadows = new ArrayList<>();
        final Map<String, Integer> likes = new TreeMap<>();
        Expr lie;
        Expr stray;
    }

    static final class State {
        boolean[] away = new boolean[12];
        int[] now = filled();
        int[] lay = filled();
        int[] lain = new int[12];
        int[][] beside = new int[12][12];
        int evenings;
        static int[] filled() { int[] r = new int[12]; Arrays.fill(r, -1); return r; }
        State copy() {
            State s = new State();
            s.away = away.clone(); s.now = now.clone(); s.lay = lay.clone(); s.lain = lain.clone();
            for (int i = 0; i < 12; i++) s.beside[i] = beside[i].clone();
            s.evenings = evenings;
            return s;
        }
    }

    record Mark(State state, List<IntPredicate> fog) { }

    StringBuilder tape = new StringBuilder();
    Told told = new Told();
    State state = new State();
    List<IntPredicate> fog = new ArrayList<>();
    Deque<State> past = new ArrayDeque<>();
    Mark[] marks = new Mark[4];

    // ---- the language

    static List<Token> tokens(String text) {
        List<Token> all = new ArrayList<>();
        int i = 0;
        while (i < text.length()) {
            char c = text.charAt(i);
            if (c == '\n' || c == ' ') { i++; continue; }
            int j = i;
            if (Character.isLowerCase(c)) {
                while (j < text.length() && Character.isLowerCase(text.charAt(j))) j++;
                all.add(new Token(text.substring(i, j), i, j - i <= 8 ? 'w' : '?'));
            } else if (Character.isDigit(c)) {
                while (j < text.length() && Character.isDigit(text.charAt(j))) j++;
                all.add(new Token(text.substring(i, j), i, j - i <= 4 ? 'n' : '?'));
            } else {
                j = i + 1;
                all.add(new Token("" + c, i, "()<=+-*;".contains("" + c) ? 's' : '?'));
            }
            i = j;
        }
        all.add(new Token("", text.length(), 'e'));
        return all;
    }

    static final class Parser {
        final List<Token> all;
        final Told t = new Told();
        int at;
        Set<String> facts;
        Parser(String text) { all = tokens(text); }
        Token peek() { return all.get(at); }
        boolean is(String s) { return peek().sort() != '?' && peek().text().equals(s) && peek().sort() != 'e'; }
        Fault fault(int kind) { return new Fault(kind, peek().place()); }
        void need(String s) { if (!is(s)) throw fault(1); at++; }
        String name() {
            if (peek().sort() != 'w' || NO_NAMES.contains(peek().text())) throw fault(1);
            return peek().text();
        }
        int number(int least, int most) {
            if (peek().sort() != 'n') throw fault(1);
            int v = Integer.parseInt(peek().text());
            if (v < least || v > most) throw fault(4);
            return v;
        }
        int beastOf(String name) {
            for (int i = 0; i < t.beasts.size(); i++) if (t.beasts.get(i).name().equals(name)) return i;
            return -1;
        }
        void newName() {
            String n = name();
            boolean there = beastOf(n) >= 0;
            for (Meadow m : t.meadows) there |= m.name().equals(n);
            if (there) throw fault(3);
            at++;
        }
        Told flock() {
            while (peek().sort() != 'e') {
                if (is("field")) {
                    if (t.field) throw fault(3);
                    at++;
                    int v = number(1, 16);
                    if (t.beasts.size() > v) throw fault(5);
                    t.field = true; t.places = v; at++;
                } else if (is("beast")) {
                    if (t.beasts.size() == 12 || t.field && t.beasts.size() == t.places) throw fault(5);
                    at++;
                    newName();
                    String n = all.get(at - 1).text();
                    int kind = peek().sort() == 'w' ? KINDS.indexOf(peek().text()) : -1;
                    if (kind < 0) throw fault(1);
                    at++;
                    need("tone");
                    t.beasts.add(new Beast(n, kind, number(0, 9)));
                    at++;
                } else if (is("like")) {
                    at++;
                    int a = beastOf(name());
                    if (a < 0) throw fault(2);
                    at++;
                    int b = beastOf(name());
                    if (b < 0) throw fault(2);
                    String pair = Math.min(a, b) + "-" + Math.max(a, b);
                    if (a == b || t.likes.containsKey(pair)) throw fault(3);
                    at++;
                    t.likes.put(pair, number(1, 99));
                    at++;
                } else if (is("meadow")) {
                    if (t.meadows.size() == 6) throw fault(5);
                    at++;
                    newName();
                    String n = all.get(at - 1).text();
                    need("grass");
                    int g = number(0, 99);
                    at++;
                    need("far");
                    t.meadows.add(new Meadow(n, g, number(1, 99)));
                    at++;
                } else if (is("lie")) {
                    if (t.lie != null) throw fault(3);
                    at++; facts = LIE_FACTS; t.lie = e(0);
                } else if (is("stray")) {
                    if (t.stray != null) throw fault(3);
                    at++; facts = STRAY_FACTS; t.stray = e(0);
                } else {
                    throw fault(1);
                }
                need(";");
            }
            if (t.lie == null) t.lie = f -> f.get("liking");
            if (t.stray == null) t.stray = f -> f.get("grass");
            return t;
        }
        Expr e(int in) {
            Expr left = test(in);
            while (is("and") || is("or")) {
                boolean and = is("and");
                at++;
                Expr l = left, r = test(in);
                left = f -> { boolean x = l.of(f) != 0, y = r.of(f) != 0; return (and ? x && y : x || y) ? 1 : 0; };
            }
            return left;
        }
        Expr test(int in) {
            Expr l = sum(in);
            if (is("<")) { at++; Expr r = sum(in); return f -> l.of(f) < r.of(f) ? 1 : 0; }
            if (is("=")) { at++; Expr r = sum(in); return f -> l.of(f) == r.of(f) ? 1 : 0; }
            return l;
        }
        Expr sum(int in) {
            Expr left = product(in);
            while (is("+") || is("-")) {
                int by = is("+") ? 1 : -1;
                at++;
                Expr l = left, r = product(in);
                left = f -> l.of(f) + by * r.of(f);
            }
            return left;
        }
        Expr product(int in) {
            Expr left = part(in);
            while (is("*")) {
                at++;
                Expr l = left, r = part(in);
                left = f -> l.of(f) * r.of(f);
            }
            return left;
        }
        Expr part(int in) {
            Token k = peek();
            boolean can = k.sort() == 'n' || k.sort() == 'w' && (facts.contains(k.text()) || k.text().equals("not")) || is("(");
            if (!can) throw fault(1);
            if (in >= 5) throw fault(5);
            at++;
            if (k.sort() == 'n') { int v = Integer.parseInt(k.text()); return f -> v; }
            if (k.text().equals("not")) { Expr x = part(in + 1); return f -> x.of(f) == 0 ? 1 : 0; }
            if (k.text().equals("(")) { Expr x = e(in + 1); need(")"); return x; }
            return f -> f.get(k.text());
        }
    }

    int feed(long a, long b, long c) {
        for (long x : new long[] {a, b, c}) {
            for (int i = 7; i >= 0; i--) {
                int sign = (int) ((x >> (8 * i)) & 0xff);
                if ((sign == 10 || sign > 31 && sign < 127) && tape.length() < 1000) tape.append((char) sign);
            }
        }
        return tape.length();
    }

    int flock() {
        String text = tape.toString();
        tape = new StringBuilder();
        try {
            told = new Parser(text).flock();
        } catch (Fault f) {
            return f.code;
        }
        state = new State();
        fog = new ArrayList<>();
        past = new ArrayDeque<>();
        marks = new Mark[4];
        return 0;
    }

    // ---- evenings

    int n() { return told.beasts.size(); }
    boolean is(int b) { return b >= 0 && b < n(); }

    int like(State s, int a, int b) {
        int v = told.likes.getOrDefault(Math.min(a, b) + "-" + Math.max(a, b), 0);
        for (int x : new int[] {a, b}) if (told.beasts.get(x).kind() == 5 && s.lain[x] < 3) return v / 2;
        return v;
    }

    Map<String, Integer> facts(int b) {
        Map<String, Integer> f = new HashMap<>();
        Beast x = told.beasts.get(b);
        f.put("tone", x.tone());
        f.put("lame", x.kind() == 4 ? 1 : 0);
        f.put("blind", x.kind() == 3 ? 1 : 0);
        return f;
    }

    void oneEvening(State s) {
        int[] spot = State.filled();
        List<Integer> order = new ArrayList<>();
        for (int b = 0; b < n(); b++) if (told.beasts.get(b).kind() == 1) order.add(b);
        for (int b = 0; b < n(); b++) if (told.beasts.get(b).kind() != 1 && told.beasts.get(b).kind() != 4) order.add(b);
        for (int b = 0; b < n(); b++) if (told.beasts.get(b).kind() == 4) order.add(b);
        for (int b : order) if (!s.away[b]) spot[b] = choose(s, spot, b);
        for (int b = 0; b < n(); b++) {
            if (spot[b] >= 0) s.lain[b]++;
            for (int o = 0; o < n(); o++) {
                if (spot[b] >= 0 && spot[o] >= 0 && Math.abs(spot[b] - spot[o]) == 1) s.beside[b][o]++;
            }
        }
        s.now = spot;
        s.lay = spot.clone();
        s.evenings++;
    }

    static int at(int[] spot, int place) {
        for (int b = 0; b < spot.length; b++) if (spot[b] == place) return b;
        return -1;
    }

    int choose(State s, int[] spot, int b) {
        List<Integer> can = new ArrayList<>();
        for (int p = 0; p < told.places; p++) if (at(spot, p) < 0) can.add(p);
        if (told.beasts.get(b).kind() == 2 && b > 0 && spot[b - 1] >= 0) {
            List<Integer> close = new ArrayList<>();
            for (int p : can) if (Math.abs(p - spot[b - 1]) == 1) close.add(p);
            if (!close.isEmpty()) can = close;
        }
        int best = -1, most = 0;
        for (int p : can) {
            Map<String, Integer> f = facts(b);
            int liking = 0, room = 0;
            for (int q : new int[] {p - 1, p + 1}) {
                if (q < 0 || q >= told.places) continue;
                int o = at(spot, q);
                if (o < 0) room++; else liking += like(s, b, o);
            }
            f.put("liking", liking);
            f.put("room", room);
            f.put("place", p);
            f.put("old", s.lay[b] == p ? 1 : 0);
            f.put("edge", p == 0 || p == told.places - 1 ? 1 : 0);
            int v = told.lie.of(f);
            boolean better = best < 0 || v > most || v == most && told.beasts.get(b).kind() == 3;
            if (better) { best = p; most = v; }
        }
        return best;
    }

    void keep() {
        past.push(state.copy());
        while (past.size() > 12) past.removeLast();
    }

    int beast(int b, int what) {
        if (!is(b)) return -1;
        return switch (what) {
            case 0 -> told.beasts.get(b).kind();
            case 1 -> told.beasts.get(b).tone();
            case 2 -> state.now[b];
            case 3 -> state.away[b] ? 1 : 0;
            case 4 -> state.lain[b];
            default -> -1;
        };
    }

    int liking(int a, int b) { return is(a) && is(b) && a != b ? like(state, a, b) : -1; }
    int place(int p) { return p < 0 ? -1 : at(state.now, p); }

    boolean away(int b, boolean back) {
        if (!is(b) || state.away[b] == !back) return false;
        keep();
        state.away[b] = !back;
        state.now[b] = -1;
        return true;
    }

    int evening(int many) {
        if (many < 1 || many > 50) return -1;
        for (int i = 0; i < many; i++) { keep(); oneEvening(state); }
        fog = new ArrayList<>();
        return state.evenings;
    }

    int settled() {
        State s = state.copy();
        for (int i = 0; i <= 50; i++) {
            State next = s.copy();
            oneEvening(next);
            if (Arrays.equals(s.now, next.now)) return i;
            s = next;
        }
        return -1;
    }

    int beside(int a, int b) { return is(a) && is(b) && a != b ? state.beside[a][b] : -1; }

    int friends(int evenings) {
        if (evenings < 1 || evenings > 9999) return -1;
        int c = 0;
        for (int a = 0; a < n(); a++) for (int b = a + 1; b < n(); b++) if (state.beside[a][b] >= evenings) c++;
        return c;
    }

    // ---- fog

    int tell(IntPredicate p) {
        if (fog.size() == 24) return -1;
        fog.add(p);
        return fog.size();
    }

    int seen(int place, boolean empty) {
        if (place < 0 || place >= told.places) return -1;
        int b = at(state.lay, place);
        return tell(set -> (b < 0 || (set >> b & 1) == 1) == empty);
    }

    int heard(int tone, int many) {
        if (tone < 1 || tone > 9 || many < 0 || many > 12) return -1;
        State s = state.copy();
        return tell(set -> {
            int c = 0;
            for (int b = 0; b < n(); b++) if (s.lay[b] >= 0 && (set >> b & 1) == 0 && told.beasts.get(b).tone() == tone) c++;
            return c == many;
        });
    }

    int uneasy(int b, int least, boolean uneasy) {
        if (!is(b) || state.lay[b] < 0 || least < 1 || least > 99) return -1;
        State s = state.copy();
        return tell(set -> {
            if ((set >> b & 1) == 1) return false;
            boolean missing = false;
            for (int o = 0; o < n(); o++) {
                missing |= o != b && s.lay[o] >= 0 && Math.abs(s.lay[o] - s.lay[b]) == 1 && (set >> o & 1) == 1 && like(s, b, o) >= least;
            }
            return missing == uneasy;
        });
    }

    boolean clear() { fog = new ArrayList<>(); return true; }

    List<Integer> sets() {
        List<Integer> all = new ArrayList<>();
        for (int set = 0; set < 4096; set++) {
            boolean ok = true;
            for (int b = 0; b < 12; b++) ok &= (set >> b & 1) == 0 || state.lay[b] >= 0;
            for (int i = 0; ok && i < fog.size(); i++) ok = fog.get(i).test(set);
            if (ok) all.add(set);
        }
        return all;
    }

    int fits() { return sets().size(); }
    int fit(int i) { List<Integer> s = sets(); return i < 0 || i >= s.size() ? -1 : s.get(i); }

    int sure(boolean here) {
        List<Integer> s = sets();
        if (s.isEmpty()) return -1;
        int bits = 0;
        for (int b = 0; b < n(); b++) {
            if (state.lay[b] < 0) continue;
            boolean all = true;
            for (int set : s) all &= (set >> b & 1) == (here ? 0 : 1);
            if (all) bits |= 1 << b;
        }
        return bits;
    }

    int worst(List<Integer> s, Map<List<Integer>, Integer> known) {
        if (s.size() == 1) return 0;
        Integer k = known.get(s);
        if (k != null) return k;
        int best = 99;
        for (int p = 0; p < told.places; p++) best = Math.min(best, look(s, p, known));
        known.put(s, best);
        return best;
    }

    int look(List<Integer> s, int place, Map<List<Integer>, Integer> known) {
        int b = at(state.lay, place);
        if (b < 0) return 99;
        List<Integer> x = new ArrayList<>(), y = new ArrayList<>();
        for (int set : s) ((set >> b & 1) == 1 ? x : y).add(set);
        return x.isEmpty() || y.isEmpty() ? 99 : 1 + Math.max(worst(x, known), worst(y, known));
    }

    int looks(int what) {
        List<Integer> s = sets();
        if (what < 0 || what > 1 || s.isEmpty() || s.size() > 16) return -1;
        Map<List<Integer>, Integer> known = new HashMap<>();
        int best = worst(s, known);
        if (what == 0) return best;
        if (best == 0) return -1;
        for (int p = 0; p < told.places; p++) if (look(s, p, known) == best) return p;
        throw new IllegalStateException();
    }

    // ---- odds, bunches, what was done

    int[] weights(int b) {
        int[] w = new int[told.meadows.size()];
        for (int m = 0; m < w.length; m++) {
            Map<String, Integer> f = facts(b);
            int friends = 0;
            for (int o = 0; o < n(); o++) if (o != b && state.away[o] && like(state, b, o) > 0) friends++;
            f.put("friends", friends);
            f.put("grass", told.meadows.get(m).grass());
            f.put("far", told.meadows.get(m).far());
            int v = told.stray.of(f);
            w[m] = v < 0 ? 0 : v > 9999 ? 9999 : v;
        }
        return w;
    }

    static long gcd(long a, long b) { return b == 0 ? a : gcd(b, a % b); }

    int odds(int b, int m, int what) {
        if (!is(b) || !state.away[b] || m < 0 || m >= told.meadows.size() || what < 0 || what > 1) return -1;
        int[] w = weights(b);
        int sum = Arrays.stream(w).sum();
        if (sum == 0) return -1;
        long g = gcd(w[m], sum);
        return (int) ((what == 0 ? w[m] : sum) / g);
    }

    void orders(List<Integer> done, List<List<Integer>> all) {
        if (done.size() == told.meadows.size()) { all.add(new ArrayList<>(done)); return; }
        for (int m = 0; m < told.meadows.size(); m++) {
            if (done.contains(m)) continue;
            done.add(m);
            orders(done, all);
            done.remove(done.size() - 1);
        }
    }

    long search(int b, int what) {
        if (!is(b) || !state.away[b] || what < 0 || what >= 2 + told.meadows.size()) return -1;
        int[] w = weights(b);
        long sum = Arrays.stream(w).sum();
        if (sum == 0) return -1;
        List<List<Integer>> all = new ArrayList<>();
        orders(new ArrayList<>(), all);
        long least = Long.MAX_VALUE;
        List<Integer> best = null;
        for (List<Integer> order : all) {
            long minutes = 0, mean = 0;
            for (int m : order) { minutes += told.meadows.get(m).far(); mean += minutes * w[m]; }
            if (mean < least) { least = mean; best = order; }
        }
        if (what >= 2) return best.get(what - 2);
        long g = gcd(least, sum);
        return (what == 0 ? least : sum) / g;
    }

    int parted(int many, int with, int without, int what) {
        if (many < 0 || many > n() || what < 0 || what > 1) return -1;
        if (with < 0 || without < 0 || with >= 1 << n() || without >= 1 << n() || (with & without) != 0) return -1;
        int best = -1, least = Integer.MAX_VALUE;
        for (int s = 0; s < 1 << n(); s++) {
            if (Integer.bitCount(s) != many || (s | with) != s || (s & without) != 0) continue;
            int u = 0;
            for (int a = 0; a < n(); a++) {
                if ((s >> a & 1) == 0) continue;
                for (int b = 0; b < n(); b++) if ((s >> b & 1) == 0) u += like(state, a, b);
            }
            if (u < least) { least = u; best = s; }
        }
        return best < 0 ? -1 : what == 0 ? least : best;
    }

    boolean undo() {
        if (past.isEmpty()) return false;
        state = past.pop();
        fog = new ArrayList<>();
        return true;
    }

    boolean mark(int m, boolean back) {
        if (m < 0 || m > 3) return false;
        if (!back) { marks[m] = new Mark(state.copy(), new ArrayList<>(fog)); return true; }
        if (marks[m] == null) return false;
        state = marks[m].state().copy();
        fog = new ArrayList<>(marks[m].fog());
        past = new ArrayDeque<>();
        return true;
    }

    int count(int what) {
        int away = 0;
        for (boolean a : state.away) away += a ? 1 : 0;
        return switch (what) {
            case 0 -> n();
            case 1 -> told.places;
            case 2 -> told.likes.size();
            case 3 -> told.meadows.size();
            case 4 -> state.evenings;
            case 5 -> away;
            case 6 -> fog.size();
            case 7 -> past.size();
            case 8 -> tape.length();
            default -> -1;
        };
    }
}
