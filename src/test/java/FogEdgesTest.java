/** FOG: the bounds of promises 12 to 19. */
public final class FogEdgesTest {
    private static final int[] FAR_OFF = {Integer.MIN_VALUE, -2, -1, 16, 17, 31, 32, 33, 64, Integer.MAX_VALUE};

    private static FlockGaps of(String text) { return Edges.of(text); }
    private static void due(String call, long got, long want) { Edges.due(call, got, want); }
    private static void due(String call, boolean got, boolean want) { Edges.due(call, got, want); }

    /** A new object behind one evening. */
    private static FlockGaps lain(String text) {
        FlockGaps x = of(text);
        x.evening(1);
        return x;
    }

    /** Which sets fit, as a text. */
    private static String fits(FlockGaps x) {
        StringBuilder s = new StringBuilder();
        int many = x.fits();
        for (int i = 0; i < many; i++) s.append(i > 0 ? " " : "").append(x.fit(i));
        return s.toString();
    }

    // ---- promise 12

    private static void promise12_placesOfTheField() {
        Edges.sentence(12, "SEEN: a PLACE is empty (or not): how much is told; NONE: others, 24 are told.");
        FlockGaps x = lain("field 16;beast a ewe tone 0;beast b blind tone 0;");
        for (int p : FAR_OFF) {
            due("seen(" + p + ", true)", x.seen(p, true), -1);
            due("seen(" + p + ", false)", x.seen(p, false), -1);
        }
        due("count(6)", x.count(6), 0);
        due("seen(0, true)", x.seen(0, true), 1);
        due("seen(15, false)", x.seen(15, false), 2);
        Edges.due("a is gone, b is not", fits(x), "1");
        FlockGaps y = lain("field 1;beast a ewe tone 0;");
        due("seen(1, true)", y.seen(1, true), -1);
        due("seen(0, true)", y.seen(0, true), 1);
    }

    private static void promise12_24ToldAndOneMore() {
        Edges.sentence(12, "What is told of it, 24 at most");
        FlockGaps x = lain("field 3;beast a ewe tone 1;beast b ewe tone 0;");
        for (int i = 1; i <= 8; i++) {
            due("seen(2, true)", x.seen(2, true), 3 * i - 2);
            due("heard(1, 1)", x.heard(1, 1), 3 * i - 1);
            due("uneasy(0, 1, false)", x.uneasy(0, 1, false), 3 * i);
        }
        due("the 25th", x.seen(2, true), -1);
        due("the 25th", x.seen(0, true), -1);
        due("the 25th", x.heard(1, 0), -1);
        due("the 25th", x.uneasy(0, 1, true), -1);
        due("count(6)", x.count(6), 24);
        Edges.due("what was refused is not told", fits(x), "0 2");
        due("clear()", x.clear(), true);
        due("then again", x.seen(0, true), 1);
    }

    private static void promise12_the24thIsTold() {
        Edges.sentence(12, "24 are told");
        FlockGaps x = lain("field 3;beast a ewe tone 1;beast b ewe tone 0;");
        for (int i = 1; i <= 23; i++) x.seen(2, true);
        due("seen(1, true)", x.seen(1, true), 24);
        Edges.due("b is gone", fits(x), "2 3");
    }

    private static void promise12_aPlaceWhereNobodyLay() {
        Edges.sentence(12, "SEEN: a PLACE is empty, or not");
        FlockGaps x = lain("field 3;beast a ewe tone 0;");
        x.seen(1, true);
        Edges.due("it was empty", fits(x), "0 1");
        x.seen(2, false);
        Edges.due("it can't be taken", fits(x), "");
        FlockGaps y = of("field 3;beast a ewe tone 0;");
        y.seen(0, true);
        Edges.due("ahead of all evenings", fits(y), "0");
        y.seen(0, false);
        Edges.due("ahead of all evenings", fits(y), "");
    }

    private static void promise12_awaySinceOrNot() {
        Edges.sentence(12, "Each has the PLACE at which it lay on the last EVENING (AWAY since or not)");
        FlockGaps x = lain("field 3;beast a ewe tone 0;beast b ewe tone 0;");
        x.away(0, false);
        due("fits()", x.fits(), 4);
        x.seen(0, false);
        Edges.due("a is there", fits(x), "0 2");
        x.away(0, true);
        Edges.due("back", fits(x), "0 2");
        FlockGaps y = of("field 3;beast a ewe tone 0;beast b ewe tone 0;");
        y.away(0, false);
        y.evening(1);
        y.away(0, true);
        Edges.due("one that was away then", fits(y), "0 2");
        due("HERE", y.sure(true), 0);
        y.seen(0, false);
        due("b lay at 0", y.sure(true), 2);
    }

    // ---- promise 13

    private static void promise13_tones1To9() {
        Edges.sentence(13, "HEARD: of a tone (1 to 9) just so many BEASTS are there");
        FlockGaps x = lain("beast a ewe tone 1;beast b ewe tone 9;beast c ewe tone 0;");
        for (int tone : new int[] {0, -1, 10, 11, Integer.MIN_VALUE, Integer.MAX_VALUE}) due("heard(" + tone + ", 0)", x.heard(tone, 0), -1);
        due("count(6)", x.count(6), 0);
        due("heard(1, 1)", x.heard(1, 1), 1);
        due("heard(9, 0)", x.heard(9, 0), 2);
        Edges.due("a is there, b is gone", fits(x), "2 6");
        for (int tone = 2; tone < 9; tone++) due("a tone that nobody has", x.heard(tone, 0), tone + 1);
        Edges.due("as ahead", fits(x), "2 6");
        x.heard(5, 1);
        Edges.due("nobody has it", fits(x), "");
    }

    private static void promise13_howMany0To12() {
        Edges.sentence(13, "HEARD: likewise (how many 0 to 12).");
        FlockGaps x = lain(Edges.beasts(12, "ewe", 3));
        for (int many : new int[] {-1, 13, 14, Integer.MIN_VALUE, Integer.MAX_VALUE}) due("heard(3, " + many + ")", x.heard(3, many), -1);
        int[] sets = {1, 12, 66, 220, 495, 792, 924, 792, 495, 220, 66, 12, 1};
        for (int many = 0; many <= 12; many++) {
            x.clear();
            due("heard(3, " + many + ")", x.heard(3, many), 1);
            due("fits()", x.fits(), sets[many]);
            due("the least", x.fit(0), (1 << (12 - many)) - 1);
        }
    }

    private static void promise13_thoseThatLayThen() {
        Edges.sentence(13, "of a tone (1 to 9) just so many BEASTS are there");
        FlockGaps x = of("beast a ewe tone 4;beast b ewe tone 4;beast c ewe tone 4;");
        x.away(2, false);
        x.evening(1);
        x.away(2, true);
        x.away(0, false);
        x.heard(4, 2);
        Edges.due("c did not lie, a did", fits(x), "0");
        x.heard(4, 3);
        Edges.due("three can't be", fits(x), "");
    }

    // ---- promise 14

    private static void promise14_least1To99() {
        Edges.sentence(14, "UNEASY (or easy): likewise (least 1 to 99; a BEAST that lay on the last EVENING).");
        FlockGaps x = lain("field 3;beast a ewe tone 0;beast b ewe tone 0;beast c ewe tone 0;like a b 99;like b c 1;");
        for (int least : new int[] {0, -1, 100, 101, Integer.MIN_VALUE, Integer.MAX_VALUE}) {
            due("uneasy(0, " + least + ", true)", x.uneasy(0, least, true), -1);
            due("uneasy(0, " + least + ", false)", x.uneasy(0, least, false), -1);
        }
        due("count(6)", x.count(6), 0);
        due("uneasy(0, 99, true)", x.uneasy(0, 99, true), 1);
        Edges.due("b is gone", fits(x), "2 6");
        x.clear();
        x.uneasy(2, 1, true);
        Edges.due("b is gone, c is there", fits(x), "2 3");
        x.clear();
        x.uneasy(2, 2, true);
        Edges.due("c likes b by less", fits(x), "");
        x.clear();
        x.uneasy(2, 2, false);
        Edges.due("c is there, whatever b does", fits(x), "0 1 2 3");
        x.clear();
        x.uneasy(2, 1, false);
        Edges.due("c is there, and so is b", fits(x), "0 1");
    }

    private static void promise14_aBeastThatLay() {
        Edges.sentence(14, "a BEAST that lay on the last EVENING");
        FlockGaps x = of(Edges.ewes(12));
        due("no evening was", x.uneasy(0, 1, true), -1);
        x.away(3, false);
        x.evening(1);
        for (int b : new int[] {-1, 12, 13, 32, Integer.MIN_VALUE, Integer.MAX_VALUE}) due("uneasy(" + b + ", 1, false)", x.uneasy(b, 1, false), -1);
        due("away then", x.uneasy(3, 1, false), -1);
        x.away(3, true);
        due("away then, back since", x.uneasy(3, 1, false), -1);
        due("count(6)", x.count(6), 0);
        due("the first", x.uneasy(0, 1, false), 1);
        due("the last", x.uneasy(11, 1, false), 2);
        x.away(4, false);
        due("away since", x.uneasy(4, 1, false), 3);
        due("all three are there", x.sure(true), 1 | 1 << 11 | 1 << 4);
        x.evening(1);
        due("away then", x.uneasy(4, 1, false), -1);
        due("there then", x.uneasy(3, 1, false), 1);
    }

    private static void promise14_asMuchOrMore() {
        Edges.sentence(14, "one that it likes (by as much as a told number or more) lay next to it and is gone (or: it is there, and no such one is gone)");
        FlockGaps x = lain("field 5;beast a ewe tone 0;beast b ewe tone 0;beast c ewe tone 0;beast d ewe tone 0;like a b 6;like b c 5;like b d 50;lie 0 - place;");
        Edges.due("they lie", Edges.lie(x), "0123");
        String[] uneasy = {"1 4 5 9 12 13", "1 4 5 9 12 13", "1 5 9 13", ""};
        int[] least = {1, 5, 6, 7};
        for (int i = 0; i < 4; i++) {
            x.clear();
            x.uneasy(1, least[i], true);
            Edges.due("b is uneasy by " + least[i], fits(x), uneasy[i]);
        }
        x.clear();
        x.uneasy(1, 7, false);
        Edges.due("b is easy: d lay not next to it", fits(x), "0 1 4 5 8 9 12 13");
        x.clear();
        x.uneasy(1, 6, false);
        Edges.due("b is easy: a is there", fits(x), "0 4 8 12");
        x.clear();
        x.uneasy(3, 1, true);
        Edges.due("d likes b alone, and that lay not next to it", fits(x), "");
    }

    private static void promise14_likingIsHalvedForAForeignOne() {
        Edges.sentence(14, "one that it likes (by as much as a told number or more)");
        FlockGaps x = lain("field 4;beast a ewe tone 0;beast f foreign tone 0;like a f 9;");
        x.uneasy(0, 5, true);
        Edges.due("it is 4 behind one evening", fits(x), "");
        x.clear();
        x.uneasy(0, 4, true);
        Edges.due("it is 4 behind one evening", fits(x), "2");
        x.evening(2);
        x.uneasy(1, 9, true);
        Edges.due("it is 9 behind three", fits(x), "1");
    }

    // ---- promises 15 to 18

    private static void promise15_clearIsAlwaysTrue() {
        Edges.sentence(15, "Nothing is told of FOG: true.");
        FlockGaps x = new FlockGaps();
        due("clear() of a new object", x.clear(), true);
        x.seen(0, false);
        due("fits()", x.fits(), 0);
        due("clear()", x.clear(), true);
        due("count(6)", x.count(6), 0);
        due("fits()", x.fits(), 1);
        due("clear() again", x.clear(), true);
        FlockGaps y = lain(Edges.ewes(2));
        y.seen(0, true);
        y.clear();
        due("it is nothing to be undone", y.count(7), 1);
        due("all lie as ahead", y.place(1), 1);
    }

    private static void promise16_fromNoneTo4096() {
        Edges.sentence(16, "How many SETS FIT.");
        FlockGaps x = of(Edges.ewes(12));
        due("nobody lay yet", x.fits(), 1);
        x.evening(1);
        due("nothing is told", x.fits(), 4096);
        x.seen(11, true);
        due("one thing is told", x.fits(), 2048);
        x.seen(11, false);
        due("none can be", x.fits(), 0);
    }

    private static void promise17_theFirstAndTheLast() {
        Edges.sentence(17, "The i-th of them, as bits, the least first; NONE: others.");
        FlockGaps x = lain(Edges.ewes(12));
        due("fit(0)", x.fit(0), 0);
        due("fit(4095)", x.fit(4095), 4095);
        due("fit(1234)", x.fit(1234), 1234);
        for (int i : new int[] {-1, 4096, 4097, Integer.MIN_VALUE, Integer.MAX_VALUE}) due("fit(" + i + ")", x.fit(i), -1);
        FlockGaps y = of(Edges.ewes(4));
        y.away(1, false);
        y.evening(1);
        Edges.due("b did not lie", fits(y), "0 1 4 5 8 9 12 13");
        due("fit(8)", y.fit(8), -1);
        y.seen(0, true);
        y.seen(0, false);
        due("fit(0) where none fits", y.fit(0), -1);
    }

    private static void promise18_noSetFits() {
        Edges.sentence(18, "SURE (here: HERE, of those that lay then) as bits; NONE: no SET FITS.");
        FlockGaps x = lain(Edges.ewes(3));
        due("sure(false)", x.sure(false), 0);
        due("sure(true)", x.sure(true), 0);
        x.seen(0, true);
        x.seen(2, false);
        due("sure(false)", x.sure(false), 1);
        due("sure(true)", x.sure(true), 4);
        x.seen(3, false);
        due("sure(false) where none fits", x.sure(false), -1);
        due("sure(true) where none fits", x.sure(true), -1);
    }

    private static void promise18_ofThoseThatLayThen() {
        Edges.sentence(18, "SURE: BEASTS that are in all SETS that FIT; HERE: in none.");
        FlockGaps x = of(Edges.ewes(3));
        due("nobody lay: SURE", x.sure(false), 0);
        due("nobody lay: HERE", x.sure(true), 0);
        x.away(1, false);
        x.evening(1);
        x.seen(0, false);
        x.seen(1, false);
        due("b did not lie", x.sure(true), 5);
        due("nobody is gone", x.sure(false), 0);
        x.clear();
        x.seen(0, true);
        x.seen(1, true);
        due("a and c are gone", x.sure(false), 5);
        due("nobody is here for sure", x.sure(true), 0);
        FlockGaps y = lain(Edges.ewes(12));
        for (int p = 0; p < 12; p++) y.seen(p, true);
        due("all twelve", y.sure(false), 4095);
        due("one set alone", y.fits(), 1);
    }

    // ---- promise 19

    private static void promise19_anotherWhat() {
        Edges.sentence(19, "NONE: another what, no SET or more than 16 FIT.");
        FlockGaps x = lain(Edges.ewes(1));
        for (int what : new int[] {-1, 2, 3, Integer.MIN_VALUE, Integer.MAX_VALUE}) due("looks(" + what + ")", x.looks(what), -1);
        due("looks(0)", x.looks(0), 1);
        due("looks(1)", x.looks(1), 0);
        x.seen(0, true);
        x.seen(0, false);
        due("looks(0) where none fits", x.looks(0), -1);
        due("looks(1) where none fits", x.looks(1), -1);
    }

    private static void promise19_oneSetAlone() {
        Edges.sentence(19, "1: the first PLACE (NONE: none is needed)");
        FlockGaps x = of(Edges.ewes(2));
        due("nobody lay: how many", x.looks(0), 0);
        due("nobody lay: the first", x.looks(1), -1);
        x.evening(1);
        x.seen(0, true);
        due("two sets", x.looks(0), 1);
        due("two sets", x.looks(1), 1);
        x.seen(1, true);
        due("one set", x.looks(0), 0);
        due("one set", x.looks(1), -1);
    }

    private static void promise19_16Sets() {
        Edges.sentence(19, "(asked about if 16 SETS or fewer FIT)");
        FlockGaps x = lain("field 16;" + Edges.beasts(4, "blind", 0));
        Edges.due("they lie", Edges.lie(x), "fedc");
        due("fits()", x.fits(), 16);
        due("looks(0)", x.looks(0), 4);
        due("looks(1)", x.looks(1), 12);
        FlockGaps y = lain(Edges.ewes(5));
        due("fits()", y.fits(), 32);
        due("looks(0) of 32", y.looks(0), -1);
        due("looks(1) of 32", y.looks(1), -1);
        y.seen(0, true);
        due("looks(0) of 16", y.looks(0), 4);
        due("looks(1) of 16", y.looks(1), 1);
    }

    private static void promise19_17Sets() {
        Edges.sentence(19, "no SET or more than 16 FIT");
        // one of three with tone 1 is there, one of six with tone 2, and b between a and c is uneasy: all but both there
        FlockGaps x = lain("beast a ewe tone 1;beast b ewe tone 0;beast c ewe tone 2;beast d ewe tone 1;beast e ewe tone 1;beast f ewe tone 2;"
                + "beast g ewe tone 2;beast h ewe tone 2;beast i ewe tone 2;beast j ewe tone 2;like a b 1;like b c 1;lie 0 - place;");
        x.heard(1, 1);
        x.heard(2, 1);
        x.uneasy(1, 1, true);
        due("fits()", x.fits(), 17);
        due("looks(0)", x.looks(0), -1);
        due("looks(1)", x.looks(1), -1);
        due("fit(16)", x.fit(16) >= 0, true);
        due("fit(17)", x.fit(17), -1);
        x.seen(9, true);
        // one of the five others with tone 2: 3 * 5 - 1
        due("fits()", x.fits(), 14);
        due("looks(0) is asked about again", x.looks(0) > 0, true);
    }

    private static void promise19_elevenLooks() {
        Edges.sentence(19, "The fewest LOOKS by which one knows the SET in the worst case, each next PLACE by what was found");
        FlockGaps x = lain("field 16;" + Edges.beasts(12, "blind", 5));
        x.heard(5, 11);
        due("one of twelve is gone", x.fits(), 12);
        due("looks(0)", x.looks(0), 11);
        due("looks(1)", x.looks(1), 4);
        x.clear();
        x.heard(5, 1);
        due("one of twelve is there", x.looks(0), 11);
        x.clear();
        x.heard(5, 12);
        due("none is gone", x.looks(0), 0);
        due("none is gone", x.looks(1), -1);
    }

    private static void promise19_askedAboutOneSetOfSetsBehindAnother() {
        Edges.sentence(19, "The fewest LOOKS by which one knows the SET in the worst case");
        FlockGaps x = lain("beast a ewe tone 0;beast b ewe tone 0;beast c ewe tone 1;beast d ewe tone 1;beast e ewe tone 1;beast f ewe tone 1;"
                + "beast g ewe tone 2;beast h ewe tone 2;beast i ewe tone 2;beast j ewe tone 3;beast k ewe tone 3;beast l ewe tone 3;");
        for (int round = 0; round < 2; round++) {
            hear(x, 3, 3, 3, true, true);
            due("one of four is gone, the others are sure", x.looks(0), 3);
            hear(x, 4, 3, 3, false, false);
            due("a and b", x.looks(0), 2);
            hear(x, 3, 3, 3, false, true);
            due("a, and one of four", x.looks(0), 4);
            hear(x, 4, 3, 3, true, false);
            due("b alone", x.looks(0), 1);
            hear(x, 2, 3, 3, true, true);
            due("two of four", x.fits(), 6);
            due("two of four", x.looks(0), 3);
            hear(x, 4, 2, 3, true, false);
            due("b, and one of three", x.fits(), 6);
            due("b, and one of three", x.looks(0), 3);
            hear(x, 4, 2, 2, true, true);
            due("one of three, twice", x.looks(0), 4);
            hear(x, 4, 3, 3, true, true);
            due("nobody is gone", x.looks(0), 0);
        }
    }

    /** How many of the tones 1, 2 and 3 are there, and whether a and b surely are. */
    private static void hear(FlockGaps x, int one, int two, int three, boolean a, boolean b) {
        x.clear();
        x.heard(1, one);
        x.heard(2, two);
        x.heard(3, three);
        if (a) x.seen(0, false);
        if (b) x.seen(1, false);
    }

    private static void promise19_sixSetsAndSixOthers() {
        Edges.sentence(19, "The fewest LOOKS by which one knows the SET in the worst case");
        FlockGaps x = lain(Edges.beasts(6, "ewe", 1) + "beast g ewe tone 2;beast h ewe tone 2;beast i ewe tone 2;beast j ewe tone 3;");
        for (int round = 0; round < 2; round++) {
            x.clear();
            x.heard(1, 5);
            x.heard(2, 3);
            x.heard(3, 1);
            due("one of six: fits()", x.fits(), 6);
            due("one of six: looks(0)", x.looks(0), 5);
            x.clear();
            x.heard(1, 6);
            x.heard(2, 2);
            due("j, and one of three: fits()", x.fits(), 6);
            due("j, and one of three: looks(0)", x.looks(0), 3);
        }
    }

    private static void promise19_ofEqualOnesTheLeast() {
        Edges.sentence(19, "the first PLACE to look at (of equal ones the least)");
        // places, not beasts: a lies behind b
        FlockGaps x = lain("field 9;beast a ewe tone 8;beast b ewe tone 3;lie place = tone;");
        due("looks(0)", x.looks(0), 2);
        due("looks(1)", x.looks(1), 3);
        // a or not, and which one of b, c, d is gone
        FlockGaps y = lain("beast a ewe tone 1;beast b ewe tone 2;beast c ewe tone 2;beast d ewe tone 2;");
        y.heard(2, 2);
        due("fits()", y.fits(), 6);
        due("a, and one of three: three looks", y.looks(0), 3);
        due("the least", y.looks(1), 0);
    }

    private static void promise19_theLeastThatIsAmongTheBest() {
        Edges.sentence(19, "the first PLACE to look at (of equal ones the least)");
        // one of a .. d is gone, and d is uneasy for c or e: either c alone, or e with one of a, b, c
        FlockGaps x = lain("beast a ewe tone 1;beast b ewe tone 1;beast c ewe tone 1;beast d ewe tone 1;beast e ewe tone 2;like c d 2;like d e 2;lie 0 - place;");
        x.heard(1, 3);
        x.uneasy(3, 1, true);
        Edges.due("they fit", fits(x), "4 17 18 20");
        due("looks(0)", x.looks(0), 2);
        due("only a look at c parts them in halves", x.looks(1), 2);
        x.seen(4, true);
        Edges.due("they fit", fits(x), "17 18 20");
        due("looks(0)", x.looks(0), 2);
        due("now a is as good as c", x.looks(1), 0);
        x.seen(0, false);
        due("a look at a would tell nothing", x.looks(1), 1);
    }

    public static void main(String[] args) {
        Edges.run(FogEdgesTest.class);
    }
}
