/** Each promise by hand: ordinary inputs, the edges that the document names, and wrong inputs. */
public final class PromisesTest {
    private static final String FIVE = "field 5; beast a leader tone 1; beast b ewe tone 2; beast c twin tone 2;"
            + "beast d blind tone 0; beast e lame tone 3; like a b 10; like b d 7; like e a 4;"
            + "meadow hill grass 6 far 3; meadow dale grass 3 far 1;";
    private static int wrong;
    private static String where = "";

    private static void due(String what, long got, long want) {
        if (got != want) {
            wrong++;
            System.out.println(where + ": " + what + " answered " + got + ", due is " + want);
        }
    }

    private static void due(String what, boolean got, boolean want) {
        due(what, got ? 1 : 0, want ? 1 : 0);
    }

    private static int feed(FlockGaps x, String text) {
        int many = x.count(8);
        for (int i = 0; i < text.length(); i += 24) {
            long[] abc = new long[3];
            for (int j = 0; j < 24; j++) {
                abc[j / 8] = abc[j / 8] << 8 | (i + j < text.length() ? text.charAt(i + j) : 0);
            }
            many = x.feed(abc[0], abc[1], abc[2]);
        }
        return many;
    }

    private static FlockGaps of(String text) {
        FlockGaps x = new FlockGaps();
        feed(x, text);
        due("flock() of " + text, x.flock(), 0);
        return x;
    }

    /** Where each of the first beasts lies, one sign each, "." for nowhere. */
    private static String lie(FlockGaps x) {
        StringBuilder s = new StringBuilder();
        for (int b = 0; b < x.count(0); b++) {
            int p = x.beast(b, 2);
            s.append(p < 0 ? "." : Integer.toString(p, 16));
        }
        return s.toString();
    }

    private static void dueLie(FlockGaps x, String want) {
        String got = lie(x);
        if (!got.equals(want)) {
            wrong++;
            System.out.println(where + ": they lie " + got + ", due is " + want);
        }
    }

    private static void fault(String text, int kind, int place) {
        FlockGaps x = of("beast kept ewe tone 4;");
        x.evening(1);
        x.seen(0, true);
        x.mark(2, false);
        feed(x, text);
        due("flock() of " + text, x.flock(), kind + 16 * place);
        due("the tape behind it", x.count(8), 0);
        due("its beasts", x.count(0), 1);
        due("its tone", x.beast(0, 1), 4);
        due("its evenings", x.count(4), 1);
        due("its fog", x.count(6), 1);
        due("its undo", x.count(7), 1);
        due("its mark", x.mark(2, true), true);
    }

    /** The last sign of the text is where the fault is. */
    private static void faultAtLast(String text, String last, int kind) {
        fault(text + last, kind, text.length());
    }

    private static void promise1NewObject() {
        FlockGaps x = new FlockGaps();
        int[] counts = {0, 12, 0, 0, 0, 0, 0, 0, 0};
        for (int i = 0; i < counts.length; i++) due("count " + i, x.count(i), counts[i]);
        due("beast", x.beast(0, 0), -1);
        due("settled", x.settled(), 0);
        due("fits", x.fits(), 1);
        due("parted", x.parted(0, 0, 0, 1), 0);
        due("undo", x.undo(), false);
        due("odds", x.odds(0, 0, 0), -1);
        due("search", x.search(0, 0), -1);
        due("NONE", FlockGaps.NONE, -1);
    }

    private static void promise2Feed() {
        FlockGaps x = new FlockGaps();
        due("nothing", x.feed(0, 0, 0), 0);
        due("left out", x.feed(0x0a1f20ff7e7f0980L, -1L, 0x0b0d000000000000L), 3);
        due("one at the end", x.feed(0, 0, ';'), 4);
        for (int i = 0; i < 41; i++) x.feed(0x2020202020202020L, 0x2020202020202020L, 0x2020202020202020L);
        due("988", x.count(8), 988);
        due("at most 1,000", x.feed(0x2020202020202020L, 0x2020202020202020L, 0x2020202020202020L), 1000);
        due("full", x.feed(';', ';', ';'), 1000);
        due("its third sign can't stand", x.flock(), 1 + 16 * 2);
        due("taken", x.count(8), 0);
        due("highest byte first", x.feed(0x6669656c64203720L, 0x3b00000000000000L, 0), 9);
        due("read", x.flock(), 0);
        due("places", x.count(1), 7);
        feed(x, " ".repeat(992) + "field 3;");
        due("just 1,000", x.count(8), 1000);
        due("read", x.flock(), 0);
        due("places", x.count(1), 3);
        feed(x, " ".repeat(993) + "field 3;");
        due("one is cut", x.flock(), 1 + 16 * 1000);
    }

    private static void promise3Tokens() {
        due("blanks alone", of(" \n ").count(0), 0);
        due("nothing between", of("field 3;beast a ewe tone 1;beast b ewe tone1;like a b 4;").liking(0, 1), 4);
        due("letter behind a number", of("beast a ewe tone 1;beast b ewe tone 2;like a b 0004;lie 1or 2;").liking(0, 1), 4);
        due("eight letters", of("beast abcdefgh ewe tone 1;").count(0), 1);
        faultAtLast("beast ", "abcdefghi ewe tone 1;", 1);
        faultAtLast("lie ", "12345 ;", 1);
        faultAtLast("field ", "00003;", 1);
        faultAtLast("lie 1 ", "> 2;", 1);
        faultAtLast("beast a", "B ewe tone 1;", 1);
        faultAtLast("lie 1 ", ", 2;", 1);
        fault("field 3  ", 1, 9);
        fault("field\n", 1, 6);
        fault("lie (1", 1, 6);
    }

    private static void promise3Faults() {
        faultAtLast("", ";", 1);
        faultAtLast("field 1;", "ewe", 1);
        faultAtLast("field ", "0;", 4);
        faultAtLast("field ", "a;", 1);
        faultAtLast("field 16;", "field 16;", 3);
        faultAtLast("beast a ewe tone 1;beast b ewe tone 1;field ", "1;", 5);
        faultAtLast("beast a ewe tone 1;field ", "0;", 4);
        faultAtLast("beast ", "not ewe tone 1;", 1);
        faultAtLast("beast a ", "sheep tone 1;", 1);
        faultAtLast("beast a ewe ", "1;", 1);
        faultAtLast("beast a ewe tone ", "10;", 4);
        faultAtLast("beast a ewe tone 1;beast ", "a ewe tone 1;", 3);
        faultAtLast("meadow a grass 1 far 1;meadow ", "a grass 1 far 1;", 3);
        faultAtLast("beast a ewe tone 1;meadow ", "a grass 1 far 1;", 3);
        faultAtLast("meadow ", "grass grass 1 far 1;", 1);
        faultAtLast("meadow a grass ", "100 far 1;", 4);
        faultAtLast("meadow a grass 1 ", "1", 1);
        faultAtLast("meadow a grass 1 far ", "100;", 4);
        StringBuilder beasts = new StringBuilder();
        StringBuilder meadows = new StringBuilder();
        for (char c = 'a'; c < 'm'; c++) beasts.append("beast ").append(c).append(" ewe tone 1;");
        for (char c = 'a'; c < 'g'; c++) meadows.append("meadow ").append(c).append(" grass 1 far 1;");
        due("twelve beasts", of(beasts.toString()).count(0), 12);
        due("six meadows", of(meadows.toString()).count(3), 6);
        faultAtLast(beasts.toString(), "beast", 5);
        faultAtLast("field 16;" + beasts, "beast a", 5);
        faultAtLast("field 12;" + beasts, "beast a", 5);
        faultAtLast(meadows.toString(), "meadow g grass 1 far 1;", 5);
        faultAtLast("field 2;beast a ewe tone 1;beast b ewe tone 1;", "beast c ewe tone 1;", 5);
        String ab = "beast a ewe tone 1;beast b ewe tone 1;meadow m grass 1 far 1;";
        faultAtLast(ab + "like ", "c b 1;", 2);
        faultAtLast(ab + "like ", "m b 1;", 2);
        faultAtLast(ab + "like a ", "m 1;", 2);
        faultAtLast(ab + "like ", "ewe b 1;", 1);
        faultAtLast(ab + "like a ", "1 1;", 1);
        faultAtLast(ab + "like a ", "a 1;", 3);
        faultAtLast(ab + "like a b ", "0;", 4);
        faultAtLast(ab + "like a b ", "c;", 1);
        faultAtLast(ab + "like a b 99;like b ", "a 1;", 3);
        faultAtLast(ab + "like a b 99;like a ", "b 1;", 3);
        faultAtLast("lie 1;", "lie 1;", 3);
        faultAtLast("stray 1;lie 1;", "stray 1;", 3);
    }

    /** The facts that are no other words of the language may be NAMES. */
    private static void promise3FactsAsNames() {
        faultAtLast("beast friends", "2", 1);
        faultAtLast("beast place ewe tone 1;beast room ewe tone 1;like place ", "old 1;", 2);
        due("old and edge", of("beast old ewe tone 1;beast edge ewe tone 1;like edge old 3;").liking(0, 1), 3);
        due("liking", of("meadow liking grass 1 far 1;").count(3), 1);
        faultAtLast("beast friends ", "ram", 1);
        faultAtLast("beast friends ewe tone 1;beast ", "friends", 3);
        faultAtLast("beast ", "lame", 1);
        faultAtLast("", "friends", 1);
    }

    private static void promise3Laws() {
        for (String fact : new String[] {"grass", "far", "friends", "a", "field", "ewe", "and", ")", ";"}) {
            faultAtLast("lie ", fact, 1);
        }
        for (String fact : new String[] {"liking", "place", "room", "old", "edge", "leader", "*"}) {
            faultAtLast("stray ", fact, 1);
        }
        for (String fact : new String[] {"tone", "lame", "blind", "liking", "place", "room", "old", "edge"}) {
            of("lie " + fact + ";");
        }
        for (String fact : new String[] {"tone", "lame", "blind", "grass", "far", "friends"}) {
            of("stray " + fact + ";");
        }
        faultAtLast("lie 1 ", "2;", 1);
        faultAtLast("lie 1 < 2 ", "= 3;", 1);
        faultAtLast("lie 1 +", ";", 1);
        faultAtLast("lie 1 and ", "or 2;", 1);
        faultAtLast("lie (1", ";", 1);
        faultAtLast("lie 1", ");", 1);
        faultAtLast("lie (", ");", 1);
        faultAtLast("lie ", "- 1;", 1);
        of("lie ((((1))));");
        of("lie not(not(1)) + ((((2))));");
        faultAtLast("lie (((((", "1)))));", 5);
        faultAtLast("lie not(not(not ", "tone));", 5);
        faultAtLast("lie not(not(not ", "not 1));", 5);
        faultAtLast("lie not(not(not ", "(1)));", 5);
        faultAtLast("lie not(not(not ", "grass));", 1);
        faultAtLast("lie not(not(not ", ";", 1);
        faultAtLast("lie not(not(not ", "12345;", 1);
    }

    /** The worth of an expression, found by an equal one next to it: the first place that is right. */
    private static void worth(String expression, int value) {
        FlockGaps x = of("beast a ewe tone 7;field 2;meadow m grass 5 far 3;meadow n grass 1 far 1;"
                + "stray (" + expression + ") * (grass=5) + (grass=1);");
        x.away(0, false);
        int above = x.odds(0, 0, 0);
        int below = x.odds(0, 0, 1);
        due(expression, above, value <= 0 ? 0 : value);
        due(expression + " below", below, value <= 0 ? 1 : value + 1);
    }

    private static void promise3Worth() {
        worth("1 + 2 * 3", 7);
        worth("2 * 3 + 1", 7);
        worth("9 - 3 - 2", 4);
        worth("9 - (3 - 2)", 8);
        worth("tone", 7);
        worth("1 < 2", 1);
        worth("2 < 2", 0);
        worth("1 + 1 = 2", 1);
        worth("(1 + 1 = 2) + 1", 2);
        worth("not 0", 1);
        worth("not 5 + 3", 3);
        worth("not not 5", 1);
        worth("not 0 * 6", 6);
        worth("0 and 0 or 1", 1);
        worth("1 or 1 and 0", 0);
        worth("5 and 3", 1);
        worth("5 or 3", 1);
        worth("0 - 1 and 1", 1);
        worth("9999 * 9999 * 25 < 0", 1);
        worth("5 - 9", 0);
        worth("9998", 9998);
        worth("9999 + 1", 9999);
        worth("far", 3);
        worth("lame + blind", 0);
    }

    private static void promise4Beast() {
        FlockGaps x = of(FIVE);
        int[] kinds = {1, 0, 2, 3, 4};
        for (int b = 0; b < 5; b++) due("kind", x.beast(b, 0), kinds[b]);
        due("foreign", of("beast a foreign tone 9;").beast(0, 0), 5);
        due("tone", of("beast a foreign tone 9;").beast(0, 1), 9);
        due("nowhere", x.beast(0, 2), -1);
        x.evening(3);
        x.away(1, false);
        due("place", x.beast(4, 2), 3);
        due("away", x.beast(1, 3), 1);
        due("not away", x.beast(0, 3), 0);
        x.evening(2);
        due("lain", x.beast(0, 4), 5);
        due("lain less", x.beast(1, 4), 3);
        due("nobody", x.beast(5, 0), -1);
        due("nobody", x.beast(-1, 0), -1);
        due("another what", x.beast(0, 5), -1);
        due("another what", x.beast(0, -1), -1);
        due("far off", x.beast(Integer.MAX_VALUE, Integer.MIN_VALUE), -1);
    }

    private static void promise5Liking() {
        FlockGaps x = of("beast a foreign tone 1;beast b foreign tone 1;beast c ewe tone 1;beast d ewe tone 1;"
                + "like a b 9;like c b 1;like c d 99;");
        due("both foreign, once halved", x.liking(0, 1), 4);
        due("half of one", x.liking(1, 2), 0);
        due("told", x.liking(3, 2), 99);
        due("not told", x.liking(0, 3), 0);
        x.evening(2);
        x.away(1, false);
        x.evening(1);
        due("one of both settled", x.liking(0, 1), 4);
        x.away(1, true);
        due("back is no evening", x.liking(1, 0), 4);
        x.evening(1);
        due("both settled", x.liking(0, 1), 9);
        due("the same", x.liking(2, 2), -1);
        due("nobody", x.liking(0, 4), -1);
        due("nobody", x.liking(-1, 0), -1);
    }

    private static void promise6Place() {
        FlockGaps x = of(FIVE);
        due("nobody yet", x.place(0), -1);
        x.evening(1);
        int[] at = {0, 1, 2, 4, 3};
        for (int p = 0; p < 5; p++) due("place", x.place(p), at[p]);
        due("none such", x.place(-1), -1);
        due("none such", x.place(5), -1);
        due("none such", x.place(Integer.MIN_VALUE), -1);
        x.away(1, false);
        due("gone", x.place(1), -1);
    }

    private static void promise7Away() {
        FlockGaps x = of(FIVE);
        due("not away", x.away(0, true), false);
        due("away", x.away(0, false), true);
        due("so already", x.away(0, false), false);
        due("nobody", x.away(5, false), false);
        due("nobody", x.away(-1, true), false);
        due("only what was done", x.count(7), 1);
        x.evening(1);
        dueLie(x, ".0142");
        due("back", x.away(0, true), true);
        due("back lies nowhere", x.beast(0, 2), -1);
        due("fog stays", x.seen(0, true), 1);
        x.away(1, false);
        due("fog stays", x.count(6), 1);
        due("the others lie on", x.beast(2, 2), 1);
    }

    private static void promise8Evening() {
        FlockGaps x = of("field 6;beast l lame tone 0;beast t twin tone 0;beast a ewe tone 0;beast k leader tone 0;beast b blind tone 0;");
        due("first", x.evening(1), 1);
        // k 0, t (l does not lie yet) 1, a 2, b blind 5, l 3
        dueLie(x, "31205");
        due("too few", x.evening(0), -1);
        due("too many", x.evening(51), -1);
        due("far off", x.evening(Integer.MIN_VALUE), -1);
        due("fifty", x.evening(50), 51);
        FlockGaps twins = of("field 6;beast a ewe tone 0;beast b ewe tone 0;beast t twin tone 0;beast u twin tone 0;beast v twin tone 0;lie place = 3 or 0;");
        twins.evening(1);
        // a 3, b 0, t next to b: 1, u next to t: 2, v: nothing is free next to u, so any: 4
        dueLie(twins, "30124");
        FlockGaps pick = of("field 6;beast a ewe tone 0;beast t twin tone 0;lie place * (place < 5);");
        pick.evening(1);
        // a 4; t next to it, at 3 or 5: the greater E is at 3
        dueLie(pick, "43");
        FlockGaps first = of("field 3;beast t twin tone 0;beast u ewe tone 0;lie 0 - place;");
        first.evening(1);
        dueLie(first, "01");
        FlockGaps facts = of("field 6;beast a ewe tone 3;beast b lame tone 4;beast c blind tone 5;"
                + "lie tone=3 and edge=0 and place=2 or (lame and room=1) or (blind and edge and room);");
        facts.evening(1);
        // a 2, c blind at an edge with room: 5 (the greatest), b lame: room is 1 at 0, 1, 3, 4: the least
        dueLie(facts, "205");
        FlockGaps old = of("field 4;beast a ewe tone 0;beast b ewe tone 0;lie not old;");
        old.evening(1);
        dueLie(old, "01");
        old.evening(1);
        dueLie(old, "10");
        FlockGaps kept = of("field 4;beast a ewe tone 0;beast b ewe tone 0;lie old * 5 - place;");
        kept.evening(1);
        kept.away(0, false);
        kept.away(1, false);
        kept.away(1, true);
        kept.evening(1);
        // b was not away on the evening before: its old place holds
        dueLie(kept, ".1");
        kept.away(1, false);
        kept.evening(1);
        kept.away(1, true);
        kept.evening(1);
        // b was away then, and has none
        dueLie(kept, ".0");
        FlockGaps likes = of("field 5;beast a ewe tone 0;beast b ewe tone 0;beast f foreign tone 0;like a f 7;like b f 5;"
                + "lie liking + (room = 2) * 4;");
        likes.evening(1);
        // a 1 (room 2), b 3, f halved likings 3 + 2 between them
        dueLie(likes, "132");
        likes.seen(0, true);
        likes.evening(1);
        due("nothing is told then", likes.count(6), 0);
        likes.seen(0, true);
        likes.evening(0);
        due("told as ahead", likes.count(6), 1);
    }

    private static void promise9Settled() {
        FlockGaps x = of(FIVE);
        due("one evening", x.settled(), 1);
        due("as ahead", x.count(4), 0);
        due("as ahead", x.count(7), 0);
        dueLie(x, ".....");
        x.evening(1);
        x.seen(0, true);
        due("settled", x.settled(), 0);
        due("fog as ahead", x.count(6), 1);
        x.away(3, false);
        due("one less", x.settled(), 0);
        x.away(3, true);
        due("one back", x.settled(), 1);
        due("never", of("beast a ewe tone 0;lie not old;").settled(), -1);
        FlockGaps f = of("field 5;beast a leader tone 0;beast f foreign tone 1;like a f 9;lie liking + 6 * (place = 4) * tone;");
        due("the least", f.settled(), 1);
        f.evening(3);
        dueLie(f, "04");
        due("no stranger any more", f.settled(), 1);
        due("as ahead", f.liking(0, 1), 9);
        f.undo();
        due("a stranger yet", f.settled(), 0);
        due("as ahead", f.beast(1, 4), 2);
    }

    private static void promise10Beside() {
        FlockGaps x = of(FIVE);
        x.evening(2);
        due("two", x.beside(0, 1), 2);
        due("likewise", x.beside(1, 0), 2);
        due("not next", x.beside(0, 2), 0);
        x.away(1, false);
        due("it lay so", x.beside(0, 1), 2);
        due("the same", x.beside(1, 1), -1);
        due("nobody", x.beside(0, 5), -1);
        due("nobody", x.beside(-1, 0), -1);
    }

    private static void promise11Friends() {
        FlockGaps x = of(FIVE);
        due("none yet", x.friends(1), 0);
        x.evening(2);
        x.away(0, false);
        x.evening(1);
        // a 0, b 1, c 2, d 4, e 3 twice; without a: b 0, c 1, d 4, e 2
        due("all pairs", x.friends(1), 4);
        due("twice", x.friends(2), 4);
        due("thrice", x.friends(3), 2);
        due("wrong", x.friends(0), -1);
        due("the greatest", x.friends(9999), 0);
        due("wrong", x.friends(10000), -1);
    }

    private static void promise12Seen() {
        FlockGaps x = of("field 4;beast a ewe tone 0;beast b ewe tone 0;");
        x.evening(1);
        due("empty", x.seen(0, true), 1);
        due("a is gone", x.sure(false), 1);
        due("not empty", x.seen(1, false), 2);
        due("b is here", x.sure(true), 2);
        due("empty anyway", x.seen(2, true), 3);
        due("still one", x.fits(), 1);
        due("never", x.seen(3, false), 4);
        due("none", x.fits(), 0);
        due("wrong", x.seen(4, true), -1);
        due("wrong", x.seen(-1, true), -1);
        x.clear();
        x.away(0, false);
        x.seen(0, false);
        due("where it lay, away since", x.sure(true), 1);
        x.clear();
        for (int i = 1; i <= 24; i++) due("told", x.seen(2, true), i);
        due("no more", x.seen(2, true), -1);
        due("no more", x.heard(1, 1), -1);
        due("no more", x.uneasy(1, 1, true), -1);
        due("24", x.count(6), 24);
    }

    private static void promise13Heard() {
        FlockGaps x = of("beast a ewe tone 1;beast b ewe tone 1;beast c ewe tone 9;beast d ewe tone 0;beast e ewe tone 1;");
        x.away(4, false);
        x.evening(1);
        x.away(0, false);
        due("both", x.heard(1, 2), 1);
        due("both are here", x.sure(true), 3);
        due("none", x.heard(9, 0), 2);
        due("c is gone", x.sure(false), 4);
        due("d is open", x.fits(), 2);
        due("no such bell", x.heard(5, 0), 3);
        due("as ahead", x.fits(), 2);
        due("too many", x.heard(1, 12), 4);
        due("none fits", x.fits(), 0);
        due("wrong", x.heard(0, 1), -1);
        due("wrong", x.heard(10, 1), -1);
        due("wrong", x.heard(1, -1), -1);
        due("wrong", x.heard(1, 13), -1);
    }

    private static void promise14Uneasy() {
        FlockGaps x = of("field 5;beast a ewe tone 0;beast b ewe tone 0;beast c ewe tone 0;beast d ewe tone 0;"
                + "like a b 5;like b c 9;like b d 50;");
        due("no evening was", x.uneasy(0, 1, true), -1);
        x.away(3, false);
        x.evening(1);
        dueLie(x, "012.");
        due("d did not lie", x.uneasy(3, 1, true), -1);
        due("b for c alone", x.uneasy(1, 6, true), 1);
        due("fits", x.fits(), 2);
        due("c is gone", x.sure(false), 4);
        due("b is here", x.sure(true), 2);
        due("b is easy for those above 9", x.uneasy(1, 10, false), 2);
        due("fits", x.fits(), 2);
        due("a likes b, that is here", x.uneasy(0, 5, true), 3);
        due("none", x.fits(), 0);
        x.clear();
        x.uneasy(1, 1, false);
        due("b, a and c are here", x.sure(true), 7);
        x.clear();
        x.uneasy(1, 9, false);
        due("b and c are here", x.sure(true), 6);
        due("wrong", x.uneasy(1, 0, true), -1);
        due("wrong", x.uneasy(1, 100, true), -1);
        due("the greatest", x.uneasy(1, 99, false), 2);
        due("nobody", x.uneasy(4, 1, true), -1);
        due("nobody", x.uneasy(-1, 1, true), -1);
        FlockGaps f = of("beast a ewe tone 0;beast f foreign tone 0;like a f 9;");
        f.evening(1);
        f.uneasy(0, 5, true);
        due("halved as long as it is strange", f.fits(), 0);
        f.clear();
        f.uneasy(0, 4, true);
        due("by as much or more", f.fits(), 1);
    }

    private static void promise15Clear() {
        FlockGaps x = of(FIVE);
        due("nothing", x.clear(), true);
        x.seen(0, true);
        due("something", x.clear(), true);
        due("told", x.count(6), 0);
    }

    private static void promise16to18Sets() {
        FlockGaps x = of("beast a ewe tone 0;beast b ewe tone 0;beast c ewe tone 0;");
        due("nobody lay", x.fits(), 1);
        due("nobody lay", x.sure(true), 0);
        x.away(1, false);
        x.evening(1);
        due("a and c", x.fits(), 4);
        int[] sets = {0, 1, 4, 5, -1};
        for (int i = 0; i < sets.length; i++) due("fit", x.fit(i), sets[i]);
        due("fit", x.fit(-1), -1);
        due("fit", x.fit(Integer.MAX_VALUE), -1);
        due("nothing is sure", x.sure(false), 0);
        due("nobody is here for sure", x.sure(true), 0);
        x.seen(0, true);
        x.seen(1, false);
        due("sure", x.sure(false), 1);
        due("here, b did not lie", x.sure(true), 4);
        x.seen(0, false);
        due("none", x.sure(false), -1);
        due("none", x.sure(true), -1);
        due("none", x.fit(0), -1);
    }

    private static void promise19Looks() {
        StringBuilder text = new StringBuilder("field 16;lie 0-place;");
        for (char c = 'a'; c < 'm'; c++) text.append("beast ").append(c).append(" ewe tone ").append(c < 'g' ? 1 : 2).append(";");
        FlockGaps x = of(text.toString());
        x.evening(1);
        due("4096", x.looks(0), -1);
        x.heard(1, 6);
        x.heard(2, 5);
        due("one of six: five looks", x.looks(0), 5);
        due("the first", x.looks(1), 6);
        x.clear();
        for (int p = 0; p < 12; p++) if (p != 3 && p != 5 && p != 7 && p != 8) x.seen(p, p % 2 == 0);
        due("16", x.fits(), 16);
        due("16 sets", x.looks(0), 4);
        due("16 sets", x.looks(1), 3);
        x.seen(3, true);
        due("8 sets", x.looks(1), 5);
        due("wrong", x.looks(2), -1);
        due("wrong", x.looks(-1), -1);
        x.seen(4, false);
        due("none", x.looks(0), -1);
        FlockGaps one = of("beast a ewe tone 1;");
        one.evening(1);
        due("two sets", one.looks(0), 1);
        due("two sets", one.looks(1), 0);
        one.heard(1, 1);
        due("one set", one.looks(0), 0);
        due("one set", one.looks(1), -1);
    }

    private static void promise20Odds() {
        FlockGaps x = of("beast a ewe tone 2;beast b foreign tone 0;beast c ewe tone 0;like a b 1;like a c 1;"
                + "meadow m grass 0 far 2;meadow n grass 6 far 5;meadow o grass 9 far 1;");
        due("not away", x.odds(0, 0, 0), -1);
        x.away(0, false);
        due("zero", x.odds(0, 0, 0), 0);
        due("of one", x.odds(0, 0, 1), 1);
        due("6 of 15", x.odds(0, 1, 0), 2);
        due("6 of 15", x.odds(0, 1, 1), 5);
        due("no meadow", x.odds(0, 3, 0), -1);
        due("no meadow", x.odds(0, -1, 0), -1);
        due("wrong", x.odds(0, 0, 2), -1);
        due("wrong", x.odds(0, 0, -1), -1);
        due("nobody", x.odds(3, 0, 0), -1);
        due("nobody", x.odds(-1, 0, 0), -1);
        x.away(0, true);
        due("back", x.odds(0, 1, 0), -1);
        FlockGaps none = of("beast a ewe tone 0;meadow m grass 0 far 1;");
        none.away(0, false);
        due("no E above 0", none.odds(0, 0, 0), -1);
        FlockGaps f = of("beast a ewe tone 0;beast b foreign tone 0;beast c ewe tone 0;beast d ewe tone 0;like a b 1;like a c 1;"
                + "meadow m grass 1 far 1;meadow n grass 0 far 1;stray friends * grass + not grass * 100;");
        f.away(0, false);
        f.away(1, false);
        f.away(3, false);
        due("half of 1 is no liking", f.odds(0, 0, 0), 0);
        f.away(2, false);
        due("c is a friend", f.odds(0, 0, 1), 101);
        due("of c, a is the friend", f.odds(2, 0, 1), 101);
    }

    private static void promise21Search() {
        FlockGaps x = of("beast a ewe tone 2;meadow m grass 0 far 2;meadow n grass 6 far 4;meadow o grass 9 far 6;meadow p grass 0 far 1;meadow q grass 7 far 1;");
        due("not away", x.search(0, 0), -1);
        x.away(0, false);
        // q (1 by 7), then n and o (equal: 4 by 6, 6 by 9), then m and p, where it is not
        int[] order = {4, 1, 2, 0, 3};
        for (int i = 0; i < 5; i++) due("order", x.search(0, 2 + i), order[i]);
        // 7 * 1 + 6 * 5 + 9 * 11 = 136 of 22
        due("above", x.search(0, 0), 68);
        due("below", x.search(0, 1), 11);
        due("wrong", x.search(0, 7), -1);
        due("wrong", x.search(0, -1), -1);
        due("wrong", x.search(0, Integer.MAX_VALUE), -1);
        due("nobody", x.search(1, 0), -1);
        due("nobody", x.search(-1, 0), -1);
        FlockGaps none = of("beast a ewe tone 0;meadow m grass 0 far 1;");
        none.away(0, false);
        due("no E above 0", none.search(0, 2), -1);
        FlockGaps bare = of("beast a ewe tone 0;");
        bare.away(0, false);
        due("no meadow", bare.search(0, 0), -1);
    }

    private static void promise22Parted() {
        FlockGaps x = of("beast a ewe tone 0;beast b ewe tone 0;beast c ewe tone 0;beast d foreign tone 0;like a b 5;like c d 7;like b c 2;");
        due("two and two", x.parted(2, 0, 0, 0), 2);
        due("the least as bits", x.parted(2, 0, 0, 1), 3);
        due("with c", x.parted(2, 4, 0, 1), 12);
        due("with c, without d", x.parted(2, 4, 8, 0), 5 + 3);
        due("with c, without d", x.parted(2, 4, 8, 1), 6);
        due("none", x.parted(0, 0, 0, 0), 0);
        due("all", x.parted(4, 0, 0, 1), 15);
        due("one: d's half", x.parted(1, 0, 0, 0), 3);
        x.evening(3);
        due("one: a then", x.parted(1, 0, 0, 1), 1);
        x.away(0, false);
        due("away or not", x.parted(1, 0, 0, 1), 1);
        due("none can", x.parted(1, 3, 0, 0), -1);
        due("none can", x.parted(3, 0, 3, 1), -1);
        due("too many", x.parted(5, 0, 0, 0), -1);
        due("wrong", x.parted(-1, 0, 0, 0), -1);
        due("in both", x.parted(2, 3, 1, 0), -1);
        due("nobody told", x.parted(2, 16, 0, 0), -1);
        due("nobody told", x.parted(2, 0, 16, 0), -1);
        due("nobody told", x.parted(2, -1, 0, 0), -1);
        due("nobody told", x.parted(2, 0, Integer.MIN_VALUE, 0), -1);
        due("wrong", x.parted(2, 0, 0, 2), -1);
        due("wrong", x.parted(2, 0, 0, -1), -1);
    }

    private static void promise23Undo() {
        FlockGaps x = of(FIVE);
        due("nothing", x.undo(), false);
        x.evening(3);
        x.away(1, false);
        x.seen(0, true);
        due("away", x.undo(), true);
        due("told", x.count(6), 0);
        due("it lies again", x.beast(1, 2), 1);
        due("three", x.count(7), 3);
        due("an evening", x.undo(), true);
        due("two", x.count(4), 2);
        due("lain", x.beast(0, 4), 2);
        due("beside", x.beside(0, 1), 2);
        x.undo();
        x.undo();
        dueLie(x, ".....");
        x.seen(0, true);
        due("nothing more", x.undo(), false);
        due("told as ahead", x.count(6), 1);
        x.evening(50);
        for (int i = 0; i < 12; i++) due("twelve", x.undo(), true);
        due("no more", x.undo(), false);
        due("38", x.count(4), 38);
        x.away(1, true);
        due("what fails is not done", x.count(7), 0);
    }

    private static void promise24Mark() {
        FlockGaps x = of(FIVE);
        due("nothing on it", x.mark(0, true), false);
        due("wrong", x.mark(4, false), false);
        due("wrong", x.mark(-1, true), false);
        x.evening(2);
        x.away(4, false);
        x.seen(3, true);
        due("laid", x.mark(3, false), true);
        due("undo stays", x.count(7), 3);
        x.away(4, true);
        x.evening(4);
        x.heard(1, 1);
        due("laid", x.mark(0, false), true);
        due("back", x.mark(3, true), true);
        due("away", x.beast(4, 3), 1);
        due("evenings", x.count(4), 2);
        due("beside", x.beside(0, 1), 2);
        due("lain", x.beast(0, 4), 2);
        due("told", x.count(6), 1);
        due("e lay at 3", x.sure(false), 16);
        due("no undo", x.count(7), 0);
        due("no undo", x.undo(), false);
        x.evening(1);
        due("still on it", x.mark(3, true), true);
        due("evenings", x.count(4), 2);
        due("the other", x.mark(0, true), true);
        due("evenings", x.count(4), 6);
        x.mark(3, false);
        x.evening(1);
        x.mark(3, true);
        due("laid anew", x.count(4), 6);
        feed(x, FIVE);
        x.flock();
        due("a new flock has none", x.mark(3, true), false);
        due("nor evenings", x.count(4), 0);
        due("nor lain", x.beast(0, 4), 0);
        due("nor beside", x.beside(0, 1), 0);
    }

    private static void promise25Count() {
        FlockGaps x = of(FIVE);
        x.evening(2);
        x.away(0, false);
        x.away(3, false);
        x.seen(0, true);
        x.feed(0, 0, 'a');
        int[] counts = {5, 5, 3, 2, 2, 2, 1, 4, 1};
        for (int i = 0; i < counts.length; i++) due("count " + i, x.count(i), counts[i]);
        due("wrong", x.count(9), -1);
        due("wrong", x.count(-1), -1);
    }

    public static void main(String[] args) {
        where = "promise 1";
        promise1NewObject();
        where = "promise 2";
        promise2Feed();
        where = "promise 3";
        promise3Tokens();
        promise3Faults();
        promise3FactsAsNames();
        promise3Laws();
        promise3Worth();
        where = "promise 4";
        promise4Beast();
        where = "promise 5";
        promise5Liking();
        where = "promise 6";
        promise6Place();
        where = "promise 7";
        promise7Away();
        where = "promise 8";
        promise8Evening();
        where = "promise 9";
        promise9Settled();
        where = "promise 10";
        promise10Beside();
        where = "promise 11";
        promise11Friends();
        where = "promise 12";
        promise12Seen();
        where = "promise 13";
        promise13Heard();
        where = "promise 14";
        promise14Uneasy();
        where = "promise 15";
        promise15Clear();
        where = "promises 16 to 18";
        promise16to18Sets();
        where = "promise 19";
        promise19Looks();
        where = "promise 20";
        promise20Odds();
        where = "promise 21";
        promise21Search();
        where = "promise 22";
        promise22Parted();
        where = "promise 23";
        promise23Undo();
        where = "promise 24";
        promise24Mark();
        where = "promise 25";
        promise25Count();
        System.out.println(wrong == 0 ? "all promises hold" : wrong + " answers are not as due");
        if (wrong != 0) System.exit(1);
    }
}
