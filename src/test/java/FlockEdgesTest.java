/** The FLOCK and its FAULTS: each bound of promise 3 and each kind of FAULT where the document puts it. */
public final class FlockEdgesTest {
    private static final String AB = "beast a ewe tone 1;beast b ewe tone 2;";
    private static final String[] NO_NAMES = {"field", "beast", "tone", "like", "lie", "meadow", "grass", "far", "stray",
        "ewe", "leader", "twin", "blind", "lame", "foreign", "not", "and", "or"};
    private static final String[] FACT_NAMES = {"liking", "place", "room", "old", "edge", "friends"};

    private static FlockGaps of(String text) { return Edges.of(text); }
    private static void fault(String ahead, String rest, int kind) { Edges.fault(ahead, rest, kind); }
    private static void due(String call, long got, long want) { Edges.due(call, got, want); }

    // ---- field

    private static void promise3_fieldOf1To16Places() {
        Edges.sentence(3, "field: once, 1 to 16 PLACES in a row (12 without).");
        fault("field ", "0;", 4);
        fault("field ", "17;", 4);
        fault("field ", "9999;", 4);
        for (int n = 1; n <= 16; n++) {
            FlockGaps x = of("field " + n + ";beast a blind tone 0;");
            due("count(1)", x.count(1), n);
            x.evening(1);
            due("a blind one lies at the last of " + n, x.beast(0, 2), n - 1);
            due("seen(" + (n - 1) + ", true)", x.seen(n - 1, true), 1);
            due("seen(" + n + ", true)", x.seen(n, true), -1);
        }
    }

    private static void promise3_twelvePlacesWithoutField() {
        Edges.sentence(3, "(12 without)");
        FlockGaps x = of("beast a blind tone 0;");
        due("count(1)", x.count(1), 12);
        x.evening(1);
        due("the last place", x.place(11), 0);
        due("seen(11, true)", x.seen(11, true), 1);
        due("seen(12, true)", x.seen(12, true), -1);
        due("field 16, then one without", Edges.read(of("field 16;"), ""), 0);
        FlockGaps y = of("field 16;");
        y.flock();
        due("count(1) of one without", y.count(1), 12);
    }

    private static void promise3_fieldIsToldOnce() {
        Edges.sentence(3, "the words field, lie, stray a second time");
        fault("field 3;", "field 3;", 3);
        fault("field 12;" + AB, "field 0;", 3);
        fault("lie 1;", "lie 1;", 3);
        fault("lie 1;stray 1;", "lie", 3);
        fault("stray 1;", "stray 1;", 3);
        fault("stray grass;lie liking;", "stray", 3);
        of("field 3;lie 1;stray 1;");
    }

    private static void promise3_fieldBehindTheBeasts() {
        Edges.sentence(3, "field's NUMBER if more BEASTS are told than that");
        fault(AB + "field ", "1;", 5);
        due("just as many", of(AB + "field 2;").count(1), 2);
        fault(Edges.ewes(12) + "field ", "11;", 5);
        due("just as many", of(Edges.ewes(12) + "field 12;").count(1), 12);
        due("more", of(Edges.ewes(12) + "field 16;").count(1), 16);
        fault("beast a ewe tone 0;field ", "0;", 4);
        fault(AB + "field ", "17;", 4);
        fault(AB + "field ", "x;", 1);
    }

    private static void promise3_fieldBehindSomeBeastsBindsTheNext() {
        Edges.sentence(3, "or of one more than the field told ahead has PLACES");
        due("a third with room", of(AB + "field 3;beast c ewe tone 0;").count(0), 3);
        fault(AB + "field 2;", "beast c ewe tone 0;", 5);
    }

    // ---- beasts

    private static void promise3_twelveBeastsAtMost() {
        Edges.sentence(3, "beast: 12 at most, numbered as told");
        due("12", of(Edges.ewes(12)).count(0), 12);
        due("12 in 16 places", of("field 16;" + Edges.ewes(12)).count(0), 12);
        due("the twelfth is 11", of(Edges.ewes(11) + "beast l lame tone 7;").beast(11, 1), 7);
        due("the first is 0", of("beast q lame tone 7;" + Edges.ewes(11)).beast(0, 1), 7);
    }

    private static void promise3_theWordBeastOfA13th() {
        Edges.sentence(3, "5 one too many: the words beast of a 13th");
        fault(Edges.ewes(12), "beast m ewe tone 0;", 5);
        fault("field 12;" + Edges.ewes(12), "beast m ewe tone 0;", 5);
        fault("field 16;" + Edges.ewes(12), "beast m ewe tone 0;", 5);
        fault(Edges.ewes(12) + "field 16;", "beast m ewe tone 0;", 5);
        fault(Edges.ewes(12), "beast", 5);
        fault(Edges.ewes(12), "beast a", 5);
        fault(Edges.ewes(12), "beast ;", 5);
    }

    private static void promise3_theWordBeastBeyondTheField() {
        Edges.sentence(3, "or of one more than the field told ahead has PLACES");
        for (int n = 1; n < 12; n++) {
            due(n + " beasts in a field of " + n, of("field " + n + ";" + Edges.ewes(n)).count(0), n);
            fault("field " + n + ";" + Edges.ewes(n), "beast z ewe tone 0;", 5);
        }
    }

    private static void promise3_sixKinds() {
        Edges.sentence(3, "KIND is ewe, leader, twin, blind, lame or foreign");
        String[] kinds = {"ewe", "leader", "twin", "blind", "lame", "foreign"};
        for (int k = 0; k < 6; k++) due(kinds[k], of("beast a " + kinds[k] + " tone 0;").beast(0, 0), k);
        for (String no : new String[] {"ram", "e", "ewes", "stray", "not", "tone", "field", "3", ";", "(", "friends", ""}) {
            fault("beast a ", no, 1);
        }
    }

    private static void promise3_tone0To9() {
        Edges.sentence(3, "tone 0 (no bell) to 9");
        for (int tone = 0; tone < 10; tone++) due("tone", of("beast a ewe tone " + tone + ";").beast(0, 1), tone);
        fault("beast a ewe tone ", "10;", 4);
        fault("beast a ewe tone ", "9999;", 4);
        fault("beast a ewe tone ", "- 1;", 1);
        fault("beast a ewe tone ", ";", 1);
        fault("beast a ewe ", "grass 1;", 1);
    }

    // ---- likes

    private static void promise3_like1To99() {
        Edges.sentence(3, "like: two BEASTS told, not the same, each pair once: 1 to 99.");
        fault(AB + "like a b ", "0;", 4);
        due("1", of(AB + "like a b 1;").liking(0, 1), 1);
        due("99", of(AB + "like a b 99;").liking(0, 1), 99);
        fault(AB + "like a b ", "100;", 4);
        fault(AB + "like a b ", "9999;", 4);
        fault(AB + "like a b ", ";", 1);
        fault(AB + "like a b ", "a;", 1);
    }

    private static void promise3_likeOfNoBeast() {
        Edges.sentence(3, "2 a NAME of no BEAST told (behind like, and the second one)");
        fault(AB + "like ", "c b 1;", 2);
        fault(AB + "like a ", "c 1;", 2);
        fault(AB + "like ", "c c 1;", 2);
        fault("like ", "a b 1;" + AB, 2);
        fault("beast a ewe tone 0;like a ", "b 1;beast b ewe tone 0;", 2);
        fault("meadow m grass 1 far 1;" + AB + "like ", "m a 1;", 2);
        fault("meadow m grass 1 far 1;" + AB + "like a ", "m 1;", 2);
        for (String name : FACT_NAMES) {
            fault(AB + "like ", name + " a 1;", 2);
            fault(AB + "like a ", name + " 1;", 2);
        }
    }

    private static void promise3_likeOfWhatIsNoName() {
        Edges.sentence(3, "1 it is none, or can't stand there");
        for (String no : NO_NAMES) {
            fault(AB + "like ", no + " a 1;", 1);
            fault(AB + "like a ", no + " 1;", 1);
        }
        for (String no : new String[] {"", ";", "7", "(", "A", "abcdefghi", "12345"}) {
            fault(AB + "like ", no, 1);
            fault(AB + "like a ", no, 1);
        }
    }

    private static void promise3_likeOfTheSame() {
        Edges.sentence(3, "the second NAME of like that is the first one");
        fault(AB + "like a ", "a 1;", 3);
        fault(AB + "like b ", "b 0;", 3);
        fault("beast place ewe tone 0;like place ", "place 1;", 3);
    }

    private static void promise3_aPairToldTwice() {
        Edges.sentence(3, "a pair that is told (at its second NAME)");
        fault(AB + "like a b 1;like a ", "b 1;", 3);
        fault(AB + "like a b 1;like b ", "a 2;", 3);
        fault(AB + "like b a 99;like a ", "b 99;", 3);
        FlockGaps x = of(Edges.ewes(3) + "like a b 1;like b c 2;like c a 3;");
        due("other pairs", x.count(2), 3);
        due("a pair is told both ways at once", x.liking(1, 0) * 100 + x.liking(2, 1) * 10 + x.liking(0, 2), 123);
    }

    private static void promise3_all66Pairs() {
        Edges.sentence(3, "each pair once");
        StringBuilder s = new StringBuilder(Edges.ewes(12));
        for (char a = 'a'; a < 'm'; a++) for (char b = 'a'; b < a; b++) s.append("like ").append(a).append(' ').append(b).append(" 9;");
        FlockGaps x = of(s.toString());
        due("count(2)", x.count(2), 66);
        due("liking(11, 10)", x.liking(11, 10), 9);
        fault(s + "like a ", "l 1;", 3);
    }

    // ---- meadows

    private static void promise3_sixMeadowsAtMost() {
        Edges.sentence(3, "meadow: 6 at most, numbered as told");
        due("6", of(Edges.meadows(6)).count(3), 6);
        FlockGaps x = of("beast a ewe tone 0;" + Edges.meadows(5) + "meadow z grass 5 far 1;");
        x.away(0, false);
        due("the sixth is 5", x.odds(0, 5, 0), 1);
        due("the sixth is 5", x.odds(0, 5, 1), 2);
        due("there is no seventh", x.odds(0, 6, 0), -1);
    }

    private static void promise3_theWordMeadowOfASeventh() {
        Edges.sentence(3, "meadow of a seventh");
        fault(Edges.meadows(6), "meadow z grass 1 far 1;", 5);
        fault(Edges.meadows(6), "meadow", 5);
        fault(Edges.meadows(6), "meadow ma", 5);
    }

    private static void promise3_grass0To99() {
        Edges.sentence(3, "grass 0 to 99, far 1 to 99.");
        String more = "meadow n grass 1 far 1;beast a ewe tone 0;";
        FlockGaps x = of("meadow m grass 0 far 1;" + more);
        x.away(0, false);
        due("grass 0", x.odds(0, 0, 0), 0);
        FlockGaps y = of("meadow m grass 99 far 1;" + more);
        y.away(0, false);
        due("grass 99", y.odds(0, 0, 0), 99);
        fault("meadow m grass ", "100 far 1;", 4);
        fault("meadow m grass ", "9999 far 1;", 4);
        fault("meadow m grass ", "far 1;", 1);
        fault("meadow m ", "far 1 grass 1;", 1);
    }

    private static void promise3_far1To99() {
        Edges.sentence(3, "far 1 to 99");
        fault("meadow m grass 1 far ", "0;", 4);
        fault("meadow m grass 1 far ", "100;", 4);
        fault("meadow m grass 1 far ", ";", 1);
        fault("meadow m grass 1 ", "grass 1;", 1);
        for (int far : new int[] {1, 99}) {
            FlockGaps x = of("beast a ewe tone 0;meadow m grass 1 far " + far + ";");
            x.away(0, false);
            due("the dog's minutes", x.search(0, 0), far);
        }
    }

    // ---- names

    private static void promise3_wordsThatAreNoNames() {
        Edges.sentence(3, "A NAME is another WORD than field, beast, tone, like, lie, meadow, grass, far, stray, the KINDS, not, and, or");
        for (String no : NO_NAMES) {
            fault("beast ", no + " ewe tone 0;", 1);
            fault("meadow ", no + " grass 1 far 1;", 1);
        }
        for (String no : new String[] {"", ";", "7", "(", "A", "abcdefghi", "12345"}) {
            fault("beast ", no, 1);
            fault("meadow ", no, 1);
        }
    }

    private static void promise3_factsThatMayBeNames() {
        Edges.sentence(3, "A NAME is another WORD than");
        StringBuilder s = new StringBuilder();
        for (String name : FACT_NAMES) s.append("beast ").append(name).append(" ewe tone 3;");
        FlockGaps x = of(s + "like liking friends 7;lie old + edge;");
        due("count(0)", x.count(0), 6);
        due("liking(0, 5)", x.liking(0, 5), 7);
        s.setLength(0);
        for (String name : FACT_NAMES) s.append("meadow ").append(name).append(" grass 1 far 1;");
        due("count(3)", of(s.toString()).count(3), 6);
        of("beast fields ewe tone 0;beast fiel ewe tone 0;beast kind ewe tone 0;beast no ewe tone 0;beast nota ewe tone 0;");
    }

    private static void promise3_noTwoAreAlike() {
        Edges.sentence(3, "no two (BEASTS, MEADOWS) are alike");
        fault(AB + "beast ", "a ewe tone 0;", 3);
        fault(AB + "beast ", "b ewe tone 0;", 3);
        fault(AB + "meadow ", "b grass 1 far 1;", 3);
        fault("meadow m grass 1 far 1;meadow ", "m grass 1 far 1;", 3);
        fault("meadow m grass 1 far 1;meadow n grass 1 far 1;beast ", "n ewe tone 1;", 3);
        fault(Edges.ewes(11) + "beast ", "k ewe tone 0;", 3);
        fault(Edges.meadows(5) + "meadow ", "me grass 1 far 1;", 3);
        due("nearly alike", of("beast a ewe tone 0;beast aa ewe tone 0;beast ab ewe tone 0;beast b ewe tone 0;beast abcdefga ewe tone 0;beast abcdefgb ewe tone 0;").count(0), 6);
    }

    private static void promise3_namesOfAnEarlierTextAreForgotten() {
        Edges.sentence(3, "Without a FAULT it is the FLOCK from then on");
        FlockGaps x = of(AB + "meadow m grass 1 far 1;like a b 4;field 5;lie place;stray far;");
        due("the same names anew", Edges.read(x, AB + "meadow m grass 1 far 1;"), 0);
        due("count(1)", x.count(1), 12);
        due("count(2)", x.count(2), 0);
        due("liking(0, 1)", x.liking(0, 1), 0);
        due("a name of the first text", Edges.read(x, "beast c ewe tone 0;like " + "a c 1;"), 2 + 16 * 24);
        due("field, lie and stray may be told again", Edges.read(x, "field 3;lie 1;stray 1;"), 0);
        due("and behind a fault, too", Edges.read(x, "field 4;lie 1;stray 1;?"), 1 + 16 * 22);
        due("and behind a fault, too", Edges.read(x, "field 5;lie 1;stray 1;"), 0);
        due("count(1)", x.count(1), 5);
    }

    private static final String FULL = "field 5;beast a lame tone 9;beast b ewe tone 8;like a b 9;meadow m grass 9 far 9;meadow n grass 8 far 8;"
            + "lie place * 1 + 0 * 2;stray far * 2 + 0 * 7;";

    /** That nothing of FULL is in that object behind a short text. */
    private static void bare(FlockGaps x) {
        due("flock() of a short text", Edges.read(x, "beast a blind tone 0;beast b ewe tone 0;meadow m grass 3 far 1;"), 0);
        due("count(1)", x.count(1), 12);
        due("count(2)", x.count(2), 0);
        due("count(3)", x.count(3), 1);
        due("liking(0, 1)", x.liking(0, 1), 0);
        x.evening(1);
        Edges.due("by liking, that is 0", Edges.lie(x), "b0");
        x.away(0, false);
        due("by grass", x.odds(0, 0, 0), 1);
        due("pairs may be told", Edges.read(x, Edges.ewes(3) + "like a b 1;meadow m grass 0 far 1;meadow n grass 3 far 1;"), 0);
        x.away(0, false);
        due("grass 0 is no odds", x.odds(0, 0, 0), 0);
        due("liking(1, 0)", x.liking(1, 0), 1);
    }

    private static void promise3_nothingOfAnEarlierFlockIsLeft() {
        Edges.sentence(3, "Without a FAULT it is the FLOCK from then on");
        for (int flocks = 1; flocks < 4; flocks++) {
            FlockGaps x = new FlockGaps();
            for (int i = 0; i < flocks; i++) due("flock()", Edges.read(x, FULL), 0);
            bare(x);
        }
    }

    private static void promise3_nothingOfATextWithAFaultIsLeft() {
        Edges.sentence(3, "0, or its FAULT (all stays then).");
        for (int faults = 1; faults < 3; faults++) {
            FlockGaps x = new FlockGaps();
            for (int i = 0; i < faults; i++) due("flock()", Edges.read(x, FULL + "?"), 1 + 16 * FULL.length());
            due("count(0)", x.count(0), 0);
            due("count(1)", x.count(1), 12);
            bare(x);
        }
        FlockGaps y = of(FULL);
        due("flock()", Edges.read(y, FULL + "field"), 3 + 16 * FULL.length());
        bare(y);
    }

    // ---- the first fault from the left

    private static void promise3_theEndIsAToken() {
        Edges.sentence(3, "the end being one at the text's length");
        String[] rows = {"field 3 ;", "beast a ewe tone 1 ;", "like a b 5 ;", "lie ( 1 + not tone ) * 2 < 3 and 4 = 5 or 6 ;",
            "meadow m grass 1 far 2 ;", "stray grass - far ;"};
        for (String row : rows) {
            String ahead = row.startsWith("like") ? AB : "";
            String[] tokens = row.split(" ");
            String text = ahead;
            for (int i = 0; i + 1 < tokens.length; i++) {
                text = text + tokens[i];
                fault(text, "", 1);
                fault(text + "  \n", "", 1);
                text = text + " ";
            }
            of(ahead + row);
        }
    }

    private static void promise3_aSentenceEndsWithItsSign() {
        Edges.sentence(3, "1 it is none, or can't stand there");
        for (String row : new String[] {"field 3 ", "beast c ewe tone 1 ", AB + "like a b 5 ", "lie 1 ", "meadow m grass 1 far 2 ", "stray 1 "}) {
            for (String no : new String[] {"field 3;", "beast d ewe tone 0;", "x;", "5;", "(", ")", "?"}) fault(row, no, 1);
        }
        fault("field 3;", ";", 1);
        fault("field 3;", "and", 1);
    }

    private static void promise3_ofTheFirstTokenThatIsWrong() {
        Edges.sentence(3, "of the first token from the left that is wrong the least");
        fault("field ", "17;field 17;", 4);
        fault("field 3;", "field ?", 3);
        fault("beast a ewe tone ", "10;beast a ewe tone 10;", 4);
        fault(AB + "like a ", "a 100;", 3);
        fault(AB + "like ", "x x 100;", 2);
        fault("lie ", "grass + ?;", 1);
        fault(Edges.ewes(12), "beast a sheep tone 10;", 5);
    }

    private static void promise3_ofOneTokenTheLeastKind() {
        Edges.sentence(3, "of the first token from the left that is wrong the least");
        // a NUMBER of field that is not as told, with more BEASTS told than that
        fault(AB + "field ", "0;", 4);
        // a token that can't stand there, within 5 others
        fault("lie (((((", ";", 1);
        fault("lie (((((", "grass", 1);
        fault("lie (((((", "99999", 1);
        fault("lie not not not not not ", "and", 1);
        fault("lie (((((", "", 1);
    }

    // ---- what stays, and what does not

    private static FlockGaps grazed() {
        FlockGaps x = of("field 4;beast p leader tone 1;beast q foreign tone 2;beast r ewe tone 2;like p q 9;like q r 5;"
                + "meadow m grass 6 far 3;meadow n grass 3 far 1;lie liking + old;stray grass * far + friends;");
        x.evening(2);
        x.away(1, false);
        x.seen(0, false);
        x.mark(2, false);
        x.away(0, false);
        x.heard(2, 1);
        return x;
    }

    private static void promise3_withAFaultAllStays() {
        Edges.sentence(3, "0, or its FAULT (all stays then).");
        String more = "field 9;beast a lame tone 9;beast p ewe tone 9;like a p 77;meadow k grass 9 far 9;lie 0 - liking;stray 5;";
        String[] ends = {"?", "like a z 1;", "lie 1;", "beast x ewe tone 10;", "beast x ewe tone 0;beast y ewe tone 0;stray"};
        for (String end : ends) {
            FlockGaps x = grazed();
            String before = Edges.all(x);
            Edges.due("that text is wrong", Edges.read(x, more + end) != 0, true);
            Edges.due("all", Edges.all(x), before);
            due("the tape", x.count(8), 0);
            Edges.due("mark(1, true)", x.mark(1, true), false);
            Edges.due("undo()", x.undo(), true);
            Edges.due("it is the away that is undone", x.beast(0, 3) == 0 && x.beast(1, 3) == 1, true);
            Edges.due("mark(2, true)", x.mark(2, true), true);
            due("told on the mark", x.count(6), 1);
        }
    }

    private static void promise3_withoutAFaultAllIsNew() {
        Edges.sentence(3, "all BEASTS are there, no evening was, nothing is seen, what was done can't be undone, no MARK is there");
        FlockGaps x = grazed();
        due("flock()", Edges.read(x, Edges.ewes(3)), 0);
        for (int what = 4; what <= 8; what++) due("count(" + what + ")", x.count(what), 0);
        for (int b = 0; b < 3; b++) {
            due("it lies nowhere", x.beast(b, 2), -1);
            due("it is there", x.beast(b, 3), 0);
            due("it lay on no evening", x.beast(b, 4), 0);
            due("uneasy, but it did not lie", x.uneasy(b, 1, true), -1);
        }
        due("beside(0, 1)", x.beside(0, 1), 0);
        due("friends(1)", x.friends(1), 0);
        due("fits()", x.fits(), 1);
        Edges.due("undo()", x.undo(), false);
        for (int m = 0; m < 4; m++) Edges.due("mark(" + m + ", true)", x.mark(m, true), false);
        due("evening(1)", x.evening(1), 1);
        Edges.due("no one has an old place", Edges.lie(x), "012");
    }

    public static void main(String[] args) {
        Edges.run(FlockEdgesTest.class);
    }
}
