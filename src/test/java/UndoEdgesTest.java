/** UNDO, MARKS and what is counted: the bounds of promises 23 to 25. */
public final class UndoEdgesTest {
    private static FlockGaps of(String text) { return Edges.of(text); }
    private static void due(String call, long got, long want) { Edges.due(call, got, want); }
    private static void due(String call, boolean got, boolean want) { Edges.due(call, got, want); }

    private static FlockGaps three() {
        return of("field 4;beast a leader tone 0;beast b foreign tone 1;beast c ewe tone 1;like a b 9;like b c 5;meadow m grass 3 far 2;lie liking + old;");
    }

    // ---- promise 23

    private static void promise23_nothingCanBe() {
        Edges.sentence(23, "UNDO: true; false: nothing can be.");
        FlockGaps x = three();
        due("undo() of a new flock", x.undo(), false);
        x.seen(0, true);
        x.mark(0, false);
        due("fog and marks are not undone", x.undo(), false);
        due("a refused one leaves the fog", x.count(6), 1);
        x.away(0, true);
        x.away(9, false);
        x.evening(0);
        x.evening(51);
        due("what was refused is not undone", x.undo(), false);
        x.away(0, false);
        due("undo()", x.undo(), true);
        due("undo()", x.undo(), false);
    }

    private static void promise23_the12thAndThe13th() {
        Edges.sentence(23, "UNDO: AWAY, BACK and EVENINGS, the last 12, one by one (nothing is told of FOG then)");
        FlockGaps x = three();
        for (int i = 1; i <= 12; i++) {
            x.evening(1);
            due("count(7)", x.count(7), i);
        }
        x.evening(1);
        due("count(7) behind 13", x.count(7), 12);
        for (int i = 1; i <= 12; i++) {
            due("undo() " + i, x.undo(), true);
            due("count(4)", x.count(4), 13 - i);
            due("count(7)", x.count(7), 12 - i);
        }
        due("undo() 13", x.undo(), false);
        due("one evening can't be undone", x.count(4), 1);
    }

    private static void promise23_ofFiftyAtOnceTheLast12() {
        Edges.sentence(23, "the last 12, one by one");
        FlockGaps x = three();
        x.evening(12);
        due("count(7)", x.count(7), 12);
        for (int i = 0; i < 12; i++) due("undo()", x.undo(), true);
        due("undo()", x.undo(), false);
        due("count(4)", x.count(4), 0);
        Edges.due("they lie", Edges.lie(x), "...");
        x.evening(50);
        due("count(7)", x.count(7), 12);
        for (int i = 0; i < 12; i++) due("undo()", x.undo(), true);
        due("undo()", x.undo(), false);
        due("count(4)", x.count(4), 38);
        due("beast(0, 4)", x.beast(0, 4), 38);
    }

    private static void promise23_awayAndBackByTwelves() {
        Edges.sentence(23, "AWAY, BACK and EVENINGS, the last 12");
        FlockGaps x = of(Edges.ewes(12));
        x.evening(1);
        for (int b = 0; b < 12; b++) x.away(b, false);
        for (int i = 0; i < 12; i++) due("undo()", x.undo(), true);
        due("count(5)", x.count(5), 0);
        due("the evening is the 13th", x.undo(), false);
        Edges.due("they lie again", Edges.lie(x), "0123456789ab");
        for (int i = 0; i < 13; i++) x.away(0, i % 2 == 1);
        for (int i = 0; i < 12; i++) x.undo();
        due("undo()", x.undo(), false);
        due("the first AWAY stays", x.beast(0, 3), 1);
    }

    private static void promise23_eachIsUndoneWhole() {
        Edges.sentence(23, "UNDO: AWAY, BACK and EVENINGS");
        FlockGaps x = three();
        x.evening(1);
        String one = Edges.all(x);
        x.away(1, false);
        String two = Edges.all(x);
        x.evening(1);
        String away = Edges.all(x);
        x.away(1, true);
        String back = Edges.all(x);
        x.evening(2);
        x.undo();
        x.undo();
        Edges.due("two evenings", Edges.all(x), back);
        x.undo();
        Edges.due("BACK", Edges.all(x), away);
        x.undo();
        Edges.due("an evening without b", Edges.all(x), two);
        x.undo();
        Edges.due("AWAY", Edges.all(x), one);
    }

    private static void promise23_doneAgainBehindAnUndo() {
        Edges.sentence(23, "one by one");
        FlockGaps x = three();
        for (int i = 0; i < 30; i++) {
            x.evening(2);
            x.undo();
        }
        due("count(4)", x.count(4), 30);
        // twelve were kept behind the last two evenings, and one of them is undone
        due("count(7)", x.count(7), 11);
        for (int i = 0; i < 11; i++) due("undo()", x.undo(), true);
        due("count(4)", x.count(4), 19);
        due("undo()", x.undo(), false);
    }

    private static void promise23_nothingIsToldOfFogThen() {
        Edges.sentence(23, "(nothing is told of FOG then)");
        FlockGaps x = three();
        x.evening(1);
        x.seen(0, true);
        x.away(2, false);
        x.heard(1, 1);
        due("undo()", x.undo(), true);
        due("count(6)", x.count(6), 0);
        due("fits()", x.fits(), 8);
        x.seen(0, true);
        due("undo()", x.undo(), true);
        due("count(6)", x.count(6), 0);
        due("nobody lay", x.fits(), 1);
    }

    // ---- promise 24

    private static void promise24_marks0To3() {
        Edges.sentence(24, "MARKS 0 to 3 hold who is AWAY, where all lie, the evenings, what is told of FOG");
        FlockGaps x = three();
        for (int m = 0; m < 4; m++) {
            due("mark(" + m + ", false)", x.mark(m, false), true);
            x.evening(1);
        }
        for (int m = 0; m < 4; m++) {
            due("mark(" + m + ", true)", x.mark(m, true), true);
            due("count(4)", x.count(4), m);
        }
        for (int m : new int[] {Integer.MIN_VALUE, -4, -1, 4, 5, 31, 32, 33, 35, Integer.MAX_VALUE}) {
            due("mark(" + m + ", false)", x.mark(m, false), false);
            due("mark(" + m + ", true)", x.mark(m, true), false);
        }
        due("count(4)", x.count(4), 3);
    }

    private static void promise24_oneNeverLaid() {
        Edges.sentence(24, "false: none such, nothing is on it (back)");
        FlockGaps x = three();
        x.evening(2);
        x.seen(0, true);
        for (int m = 0; m < 4; m++) due("mark(" + m + ", true)", x.mark(m, true), false);
        due("count(4)", x.count(4), 2);
        due("a refused one leaves the fog", x.count(6), 1);
        due("and what can be undone", x.count(7), 2);
        x.mark(2, false);
        for (int m = 0; m < 4; m++) due("mark(" + m + ", true)", x.mark(m, true), m == 2);
    }

    private static void promise24_allThatAMarkHolds() {
        Edges.sentence(24, "hold who is AWAY, where all lie, the evenings, what is told of FOG");
        FlockGaps x = three();
        x.evening(2);
        x.away(1, false);
        x.seen(0, false);
        x.uneasy(0, 4, true);
        x.mark(1, false);
        due("count(7)", x.count(7), 3);
        // the eighth number of all is count(7)
        String laid = Edges.all(x).replaceFirst("^((\\d+ ){7})3 ", "$10 ");
        x.away(1, true);
        x.evening(3);
        x.away(0, false);
        x.heard(1, 0);
        due("mark(1, true)", x.mark(1, true), true);
        Edges.due("all, but that nothing can be undone", Edges.all(x), laid);
        x.clear();
        x.evening(1);
        x.evening(1);
        due("a second time", x.mark(1, true), true);
        Edges.due("all, but that nothing can be undone", Edges.all(x), laid);
    }

    private static void promise24_whatIsToldOfFogIsHeldWhole() {
        Edges.sentence(24, "what is told of FOG");
        FlockGaps x = of(Edges.beasts(4, "ewe", 1) + "like a b 5;like b c 9;lie 0 - place;");
        x.evening(1);
        x.heard(1, 3);
        x.uneasy(1, 9, true);
        x.seen(3, false);
        x.mark(0, false);
        due("only c is gone", x.fits() * 100 + x.fit(0), 104);
        x.clear();
        x.uneasy(2, 99, false);
        x.heard(1, 2);
        x.seen(0, true);
        x.seen(1, true);
        due("a and b are gone", x.fits() * 100 + x.fit(0), 103);
        x.mark(1, false);
        due("mark(0, true)", x.mark(0, true), true);
        due("count(6)", x.count(6), 3);
        due("only c is gone", x.fits() * 100 + x.fit(0), 104);
        due("mark(1, true)", x.mark(1, true), true);
        due("count(6)", x.count(6), 4);
        due("a and b are gone", x.fits() * 100 + x.fit(0), 103);
    }

    private static void promise24_theOldPlacesAndTheStrangersAreHeld() {
        Edges.sentence(24, "where all lie, the evenings");
        FlockGaps x = of("field 3;beast a ewe tone 0;beast f foreign tone 0;like a f 9;lie not old;");
        x.evening(2);
        Edges.due("they lie", Edges.lie(x), "10");
        x.mark(0, false);
        x.evening(2);
        due("no stranger any more", x.liking(0, 1), 9);
        x.away(0, false);
        x.evening(1);
        x.mark(0, true);
        due("a stranger again", x.liking(0, 1), 4);
        due("beside(0, 1)", x.beside(0, 1), 2);
        due("uneasy(0, 4, true)", x.uneasy(0, 4, true), 1);
        due("f is gone", x.sure(false), 2);
        x.evening(1);
        Edges.due("they lie", Edges.lie(x), "01");
    }

    private static void promise24_nothingCanBeUndoneWhenOneIsGoneBackTo() {
        Edges.sentence(24, "(nothing can be undone when one is gone back to)");
        FlockGaps x = three();
        x.evening(5);
        x.mark(0, false);
        due("laying it leaves what can be undone", x.count(7), 5);
        x.away(0, false);
        due("count(7)", x.count(7), 6);
        due("mark(0, true)", x.mark(0, true), true);
        due("count(7)", x.count(7), 0);
        due("undo()", x.undo(), false);
        x.evening(1);
        due("count(7)", x.count(7), 1);
        due("undo()", x.undo(), true);
        due("undo()", x.undo(), false);
        due("count(4)", x.count(4), 5);
    }

    private static void promise24_laidAnew() {
        Edges.sentence(24, "A MARK is laid (back: gone back to): true");
        FlockGaps x = three();
        x.mark(3, false);
        x.evening(1);
        x.seen(0, true);
        x.mark(3, false);
        x.evening(1);
        x.mark(3, true);
        due("count(4)", x.count(4), 1);
        due("count(6)", x.count(6), 1);
        due("another was not laid", x.mark(0, true), false);
        x.mark(0, false);
        x.clear();
        x.mark(3, true);
        due("a mark keeps its own fog", x.count(6), 1);
        x.undo();
        x.evening(3);
        x.undo();
        due("undo leaves the marks", x.mark(0, true), true);
        due("count(4)", x.count(4), 1);
    }

    private static void promise24_aNewFlockHasNone() {
        Edges.sentence(24, "no MARK is there");
        FlockGaps x = three();
        for (int m = 0; m < 4; m++) x.mark(m, false);
        Edges.read(x, "?");
        due("behind a fault", x.mark(3, true), true);
        due("flock() of nothing", x.flock(), 0);
        for (int m = 0; m < 4; m++) due("mark(" + m + ", true)", x.mark(m, true), false);
    }

    private static void promise24_theTapeIsNotOnIt() {
        Edges.sentence(24, "MARKS 0 to 3 hold who is AWAY");
        FlockGaps x = three();
        Edges.feed(x, "abc");
        x.mark(0, false);
        Edges.feed(x, "d");
        x.mark(0, true);
        due("count(8)", x.count(8), 4);
    }

    // ---- promise 25

    private static void promise25_anotherWhat() {
        Edges.sentence(25, "NONE for another what.");
        FlockGaps x = three();
        for (int what : new int[] {Integer.MIN_VALUE, -2, -1, 9, 10, 16, Integer.MAX_VALUE}) due("count(" + what + ")", x.count(what), -1);
    }

    private static void promise25_theLeast() {
        Edges.sentence(25, "What 0: BEASTS, 1: PLACES, 2: pairs with like, 3: MEADOWS, 4: EVENINGS, 5: BEASTS that are AWAY, 6: how much is told of FOG, 7: how many can be undone, 8: signs on the TAPE.");
        FlockGaps x = of("field 1;");
        int[] counts = {0, 1, 0, 0, 0, 0, 0, 0, 0};
        for (int i = 0; i < 9; i++) due("count(" + i + ")", x.count(i), counts[i]);
    }

    private static void promise25_theGreatest() {
        Edges.sentence(25, "What 0: BEASTS, 1: PLACES, 2: pairs with like");
        StringBuilder s = new StringBuilder("field 16;" + Edges.ewes(12));
        for (char a = 'a'; a < 'm'; a++) for (char b = 'a'; b < a; b++) s.append("like ").append(a).append(' ').append(b).append(" 9;");
        FlockGaps x = of(s.toString());
        x.evening(50);
        for (int b = 0; b < 12; b++) x.away(b, false);
        for (int i = 0; i < 24; i++) x.heard(1, 0);
        Edges.feed(x, "x".repeat(1000));
        int[] counts = {12, 16, 66, 0, 50, 12, 24, 12, 1000};
        for (int i = 0; i < 9; i++) due("count(" + i + ")", x.count(i), counts[i]);
        due("count(3)", of(Edges.meadows(6)).count(3), 6);
    }

    public static void main(String[] args) {
        Edges.run(UndoEdgesTest.class);
    }
}
