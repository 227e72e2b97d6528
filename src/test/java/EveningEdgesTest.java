/** Beasts, likings and EVENINGS: the bounds of promises 4 to 11. */
public final class EveningEdgesTest {
    private static final int[] FAR_OFF = {Integer.MIN_VALUE, -2, -1, 12, 13, 31, 32, 33, 64, Integer.MAX_VALUE};
    private static final String PAIR = "field 5;beast a ewe tone 0;beast b ewe tone 9;like a b 7;";

    private static FlockGaps of(String text) { return Edges.of(text); }
    private static void due(String call, long got, long want) { Edges.due(call, got, want); }
    private static void due(String call, boolean got, boolean want) { Edges.due(call, got, want); }

    private static void lie(FlockGaps x, String want) {
        Edges.due("where they lie behind evening " + x.count(4), Edges.lie(x), want);
    }

    /** Where they lie behind one evening more. */
    private static void then(FlockGaps x, String want) {
        x.evening(1);
        lie(x, want);
    }

    // ---- promise 4

    private static void promise4_beastsThatAreNot() {
        Edges.sentence(4, "NONE: others.");
        FlockGaps x = of(Edges.beasts(12, "lame", 9));
        x.evening(1);
        for (int what = 0; what < 5; what++) for (int b : FAR_OFF) due("beast(" + b + ", " + what + ")", x.beast(b, what), -1);
        due("the greatest", x.beast(11, 0), 4);
        due("the least", x.beast(0, 0), 4);
        FlockGaps y = of(Edges.ewes(2));
        due("one above", y.beast(2, 0), -1);
        due("the greatest", y.beast(1, 0), 0);
    }

    private static void promise4_whatIsNot() {
        Edges.sentence(4, "NONE: others.");
        FlockGaps x = of(PAIR);
        x.evening(1);
        for (int what : new int[] {-1, 5, 6, Integer.MIN_VALUE, Integer.MAX_VALUE}) due("beast(0, " + what + ")", x.beast(0, what), -1);
        for (int what = 0; what < 5; what++) due("beast(0, " + what + ")", x.beast(0, what), what == 4 ? 1 : 0);
    }

    private static void promise4_itLiesNowhere() {
        Edges.sentence(4, "2: its PLACE (NONE: it lies nowhere)");
        FlockGaps x = of("field 16;beast a ewe tone 0;beast b blind tone 0;");
        lie(x, "..");
        then(x, "0f");
        x.away(0, false);
        lie(x, ".f");
        x.away(0, true);
        lie(x, ".f");
        then(x, "0f");
    }

    private static void promise4_evenings() {
        Edges.sentence(4, "3: 1 if it is AWAY, 4: on how many EVENINGS it lay");
        FlockGaps x = of(PAIR);
        due("none yet", x.beast(0, 4), 0);
        x.evening(50);
        x.away(0, false);
        due("AWAY", x.beast(0, 3), 1);
        due("the other is not", x.beast(1, 3), 0);
        x.evening(3);
        due("one that was away", x.beast(0, 4), 50);
        due("one that was not", x.beast(1, 4), 53);
        x.away(0, true);
        due("BACK", x.beast(0, 3), 0);
        due("BACK is no evening", x.beast(0, 4), 50);
        x.evening(1);
        due("and one more", x.beast(0, 4), 51);
    }

    // ---- promise 5

    private static void promise5_othersAndTheSame() {
        Edges.sentence(5, "LIKING of two BEASTS; NONE: others, the same.");
        FlockGaps x = of(Edges.ewes(12) + "like a l 99;like b c 1;");
        due("the first and the last", x.liking(0, 11), 99);
        due("the last and the first", x.liking(11, 0), 99);
        due("the least", x.liking(2, 1), 1);
        due("not told", x.liking(3, 4), 0);
        for (int b = 0; b < 12; b++) due("the same", x.liking(b, b), -1);
        for (int b : FAR_OFF) {
            due("liking(0, " + b + ")", x.liking(0, b), -1);
            due("liking(" + b + ", 0)", x.liking(b, 0), -1);
            due("liking(" + b + ", " + b + ")", x.liking(b, b), -1);
        }
    }

    private static void promise5_halfCut() {
        Edges.sentence(5, "half of it, cut, if one of them is foreign and lay here on fewer than 3 evenings");
        for (int like : new int[] {1, 2, 3, 50, 98, 99}) {
            for (String kinds : new String[] {"foreign ewe", "ewe foreign", "foreign foreign"}) {
                String[] kind = kinds.split(" ");
                FlockGaps x = of("beast a " + kind[0] + " tone 0;beast b " + kind[1] + " tone 0;like a b " + like + ";");
                for (int evening = 0; evening < 3; evening++) {
                    due(kinds + " that like by " + like + " behind evening " + evening, x.liking(0, 1), like / 2);
                    x.evening(1);
                }
                due(kinds + " that like by " + like + " behind evening 3", x.liking(1, 0), like);
                x.evening(1);
                due(kinds + " that like by " + like + " behind evening 4", x.liking(1, 0), like);
                x.undo();
                x.undo();
                due("with the third one undone", x.liking(0, 1), like / 2);
            }
        }
    }

    private static void promise5_onlyForeignOnesAreHalved() {
        Edges.sentence(5, "if one of them is foreign");
        for (String kind : new String[] {"ewe", "leader", "twin", "blind", "lame"}) {
            due("liking of " + kind, of("beast a " + kind + " tone 0;beast b ewe tone 0;like a b 9;").liking(0, 1), 9);
        }
        FlockGaps x = of("beast a ewe tone 0;beast b ewe tone 0;beast f foreign tone 0;like a b 9;like a f 9;");
        due("beside a foreign one, of others", x.liking(0, 1), 9);
        due("of the foreign one", x.liking(0, 2), 4);
    }

    private static void promise5_anEveningAwayIsNone() {
        Edges.sentence(5, "lay here on fewer than 3 evenings");
        FlockGaps x = of("beast a ewe tone 0;beast f foreign tone 0;like a f 9;");
        x.evening(2);
        x.away(1, false);
        x.evening(5);
        due("AWAY", x.liking(0, 1), 4);
        x.away(1, true);
        due("BACK", x.liking(0, 1), 4);
        x.evening(1);
        due("its third", x.liking(0, 1), 9);
        x.away(1, false);
        due("AWAY again", x.liking(0, 1), 9);
    }

    private static void promise5_ofTwoForeignOnesEach() {
        Edges.sentence(5, "if one of them is foreign and lay here on fewer than 3 evenings");
        FlockGaps x = of("beast a foreign tone 0;beast f foreign tone 0;like a f 11;");
        x.away(1, false);
        x.evening(3);
        due("one of them lay three times, one never", x.liking(0, 1), 5);
        x.away(1, true);
        x.evening(2);
        due("one of them lay five times, one twice", x.liking(0, 1), 5);
        x.evening(1);
        due("both lay three times", x.liking(0, 1), 11);
    }

    private static void promise8_halvedOnTheThirdEveningStill() {
        Edges.sentence(8, "half of it, cut, if one of them is foreign and lay here on fewer than 3 evenings");
        FlockGaps x = of("field 4;beast a leader tone 0;beast f foreign tone 9;like a f 9;lie (place = tone) * 50 + (place = 3) + (liking = 9) * 2;");
        then(x, "03");
        then(x, "03");
        due("liking(0, 1) ahead of the third", x.liking(0, 1), 4);
        then(x, "03");
        due("liking(0, 1) behind the third", x.liking(0, 1), 9);
        then(x, "01");
    }

    private static void promise8_halvedForThoseThatLieBehindTheForeignOne() {
        Edges.sentence(8, "half of it, cut, if one of them is foreign and lay here on fewer than 3 evenings");
        FlockGaps x = of("field 4;beast f foreign tone 0;beast b ewe tone 9;like b f 9;lie (place = tone) * 50 + (place = 3) + (liking = 9) * 2;");
        then(x, "03");
        then(x, "03");
        then(x, "03");
        then(x, "01");
    }

    private static void promise8_oldIs1() {
        Edges.sentence(8, "old (1 if that is its OLD PLACE)");
        FlockGaps x = of("field 4;beast a ewe tone 0;lie (place = 2) * 5 - (old = 1) * 9;");
        then(x, "2");
        then(x, "0");
        then(x, "2");
        FlockGaps y = of("field 4;beast a ewe tone 0;lie (place = 2) * 5 - (1 < old) * 9;");
        then(y, "2");
        then(y, "2");
    }

    // ---- promise 6

    private static void promise6_nobodyAndOthers() {
        Edges.sentence(6, "Who lies at a PLACE; NONE: nobody, others.");
        FlockGaps x = of("field 16;beast a ewe tone 0;beast b blind tone 0;");
        for (int p = -1; p < 17; p++) due("place(" + p + ") ahead of all evenings", x.place(p), -1);
        x.evening(1);
        for (int p = -2; p < 19; p++) due("place(" + p + ")", x.place(p), p == 0 ? 0 : p == 15 ? 1 : -1);
        due("far off", x.place(Integer.MIN_VALUE), -1);
        due("far off", x.place(Integer.MAX_VALUE), -1);
        FlockGaps y = of("field 16;" + Edges.ewes(12));
        y.evening(1);
        for (int p = 0; p < 16; p++) due("place(" + p + ") of twelve", y.place(p), p < 12 ? p : -1);
        x.away(0, false);
        due("nobody, where one is away", x.place(0), -1);
        x.away(0, true);
        due("nobody, where one is back", x.place(0), -1);
        due("place(15)", x.place(15), 1);
    }

    private static void promise6_aPlaceBeyondTheField() {
        Edges.sentence(6, "NONE: nobody, others.");
        FlockGaps x = of("field 2;beast a ewe tone 0;beast b ewe tone 0;");
        x.evening(1);
        due("the last", x.place(1), 1);
        due("one above", x.place(2), -1);
        due("one below", x.place(-1), -1);
    }

    // ---- promise 7

    private static void promise7_awayAndSoAlready() {
        Edges.sentence(7, "AWAY (back: BACK): true; false: others, it is so already.");
        FlockGaps x = of(Edges.ewes(12));
        due("back, but it is there", x.away(0, true), false);
        due("away", x.away(0, false), true);
        due("away again", x.away(0, false), false);
        due("away, the last", x.away(11, false), true);
        due("back", x.away(0, true), true);
        due("back again", x.away(0, true), false);
        due("count(5)", x.count(5), 1);
        due("what was refused is not undone", x.count(7), 3);
    }

    private static void promise7_others() {
        Edges.sentence(7, "false: others");
        FlockGaps x = of(Edges.ewes(12));
        for (int b : FAR_OFF) {
            due("away(" + b + ", false)", x.away(b, false), false);
            due("away(" + b + ", true)", x.away(b, true), false);
        }
        due("count(5)", x.count(5), 0);
        due("count(7)", x.count(7), 0);
        FlockGaps y = of(Edges.ewes(1));
        due("one above", y.away(1, false), false);
    }

    private static void promise7_allAway() {
        Edges.sentence(7, "a BEAST that is AWAY lies nowhere, one that is BACK nowhere up to the next EVENING");
        FlockGaps x = of(Edges.ewes(12));
        x.evening(1);
        lie(x, "0123456789ab");
        for (int b = 0; b < 12; b++) x.away(b, false);
        due("count(5)", x.count(5), 12);
        lie(x, "............");
        then(x, "............");
        due("settled() of nobody", x.settled(), 0);
        x.away(5, true);
        lie(x, "............");
        then(x, ".....0......");
        due("count(4)", x.count(4), 3);
    }

    private static void promise7_awayByHandLeavesTheFogAndTheOthers() {
        Edges.sentence(7, "AWAY and BACK are done by hand");
        FlockGaps x = of(Edges.ewes(3));
        x.evening(1);
        x.seen(0, true);
        x.away(1, false);
        due("told", x.count(6), 1);
        lie(x, "0.2");
        x.away(1, true);
        due("told", x.count(6), 1);
        lie(x, "0.2");
        due("the evenings", x.count(4), 1);
    }

    // ---- promise 8

    private static void promise8_oneTo50() {
        Edges.sentence(8, "So many EVENINGS (1 to 50): how many there were, in all; NONE: others.");
        FlockGaps x = of(PAIR);
        x.seen(0, true);
        for (int many : new int[] {0, -1, 51, 52, 100, Integer.MIN_VALUE, Integer.MAX_VALUE}) due("evening(" + many + ")", x.evening(many), -1);
        due("none was", x.count(4), 0);
        due("nothing can be undone", x.count(7), 0);
        due("told as ahead", x.count(6), 1);
        due("evening(1)", x.evening(1), 1);
        due("evening(50)", x.evening(50), 51);
        due("evening(49)", x.evening(49), 100);
        due("count(4)", x.count(4), 100);
        due("it lay on all", x.beast(0, 4), 100);
    }

    private static void promise8_manyAreAsOneByOne() {
        Edges.sentence(8, "So many EVENINGS");
        String text = "field 13;" + Edges.ewes(11) + "beast l foreign tone 0;like a l 9;lie old * (4 * place - 1) + liking;";
        FlockGaps x = of(text);
        FlockGaps y = of(text);
        for (int i = 0; i < 7; i++) x.evening(1);
        y.evening(7);
        Edges.due("seven at once", Edges.lie(y), Edges.lie(x));
        due("friends(3)", y.friends(3), x.friends(3));
    }

    private static void promise8_leadersFirstLameOnesLast() {
        Edges.sentence(8, "leaders first, lame ones last, else as told");
        then(of("beast a lame tone 0;beast b ewe tone 0;beast c leader tone 0;beast d lame tone 0;beast e foreign tone 0;beast f leader tone 0;"), "420531");
        then(of("field 6;beast a lame tone 0;beast b blind tone 0;beast c lame tone 0;beast d ewe tone 0;"), "1520");
        then(of("beast a lame tone 0;"), "0");
        then(of("beast a leader tone 0;beast b leader tone 0;"), "01");
    }

    private static void promise8_ofEqualOnesTheLeast() {
        Edges.sentence(8, "of equal ones the least PLACE; a blind one the greatest");
        then(of("field 16;beast a ewe tone 0;beast b blind tone 0;beast c ewe tone 0;beast d blind tone 0;"), "0f1e");
        then(of("field 9;beast a ewe tone 0;beast b blind tone 0;lie 2 < place and place < 6;"), "35");
        then(of("field 9;beast a ewe tone 0;beast b blind tone 0;lie place = 4;"), "48");
        then(of("field 9;beast b blind tone 0;beast c blind tone 0;lie 0 - place;"), "01");
        then(of("field 9;beast b leader tone 0;beast c foreign tone 0;beast d lame tone 0;lie place < 2;"), "012");
    }

    private static void promise8_theGreatestMayBeBelow0() {
        Edges.sentence(8, "Each lies at the free PLACE of the greatest E");
        then(of("field 5;beast a ewe tone 0;beast b blind tone 0;lie (place = 3) - 9;"), "34");
        then(of("field 5;beast a ewe tone 0;lie place - 9;"), "4");
        then(of("field 5;beast a blind tone 0;lie 0 - 9 - place;"), "0");
        then(of("field 5;beast a ewe tone 0;lie 0 - (place < 4);"), "4");
    }

    private static void promise8_aTwinWithAFreePlaceNext() {
        Edges.sentence(8, "a twin takes a free PLACE next to the BEAST told ahead of it, if that lies already and there is one (else any)");
        // by its tone alone it would lie at 8
        then(of("field 9;beast a ewe tone 3;beast t twin tone 8;lie place = tone;"), "32");
        then(of("field 9;beast a ewe tone 3;beast t ewe tone 8;lie place = tone;"), "38");
        // the greater E of the two, then of equal ones the least
        then(of("field 9;beast a ewe tone 3;beast t twin tone 4;lie place = tone;"), "34");
        then(of("field 9;beast a ewe tone 3;beast t twin tone 2;lie place = tone;"), "32");
        then(of("field 9;beast a ewe tone 3;beast t twin tone 0;lie place = tone or tone = 0 and place;"), "32");
        // at the ends of the field
        then(of("field 9;beast a ewe tone 0;beast t twin tone 8;lie place = tone;"), "01");
        then(of("field 9;beast a ewe tone 8;beast t twin tone 0;lie place = tone;"), "87");
        then(of("field 2;beast a ewe tone 1;beast t twin tone 1;lie place = tone;"), "10");
    }

    private static void promise8_aTwinWithOneOfTwoPlacesFree() {
        Edges.sentence(8, "a twin takes a free PLACE next to the BEAST told ahead of it");
        then(of("field 9;beast b ewe tone 2;beast a ewe tone 3;beast t twin tone 8;lie place = tone;"), "234");
        then(of("field 9;beast b ewe tone 4;beast a ewe tone 3;beast t twin tone 8;lie place = tone;"), "432");
    }

    private static void promise8_aTwinWithoutAFreePlaceNext() {
        Edges.sentence(8, "(else any)");
        then(of("field 9;beast b ewe tone 2;beast c ewe tone 4;beast a ewe tone 3;beast t twin tone 8;lie place = tone;"), "2438");
        then(of("field 9;beast b ewe tone 1;beast a ewe tone 0;beast t twin tone 8;lie place = tone;"), "108");
        then(of("field 9;beast b ewe tone 7;beast a ewe tone 8;beast t twin tone 4;lie place = tone;"), "784");
        then(of("field 4;beast b ewe tone 1;beast a ewe tone 0;beast t twin tone 9;lie place = tone;"), "102");
    }

    private static void promise8_aTwinWhoseBeastDoesNotLieYet() {
        Edges.sentence(8, "if that lies already");
        // told first; behind a lame one; behind one that is away, or back again
        then(of("field 9;beast t twin tone 8;beast a ewe tone 3;lie place = tone;"), "83");
        then(of("field 9;beast a lame tone 3;beast t twin tone 8;lie place = tone;"), "38");
        then(of("field 9;beast a leader tone 3;beast t twin tone 8;lie place = tone;"), "32");
        FlockGaps lame = of("field 9;beast a lame tone 3;beast t twin tone 8;lie place = tone;");
        then(lame, "38");
        // where the lame one lay on the evening before is not where it lies already
        then(lame, "38");
        FlockGaps x = of("field 9;beast b ewe tone 5;beast a ewe tone 3;beast t twin tone 8;lie place = tone;");
        then(x, "532");
        x.away(1, false);
        then(x, "5.8");
        x.away(1, true);
        lie(x, "5.8");
        then(x, "532");
    }

    private static void promise8_twinsInARow() {
        Edges.sentence(8, "next to the BEAST told ahead of it");
        then(of("field 9;beast a ewe tone 4;beast t twin tone 9;beast u twin tone 9;beast v twin tone 9;lie place = tone;"), "4321");
        then(of("field 4;beast a ewe tone 1;beast t twin tone 9;beast u twin tone 9;beast v twin tone 9;lie place = tone;"), "1023");
        then(of("field 9;beast t twin tone 4;beast u twin tone 9;lie place = tone;"), "43");
    }

    private static void promise8_aFullField() {
        Edges.sentence(8, "all BEASTS that are not AWAY get up, and lie down one by one");
        FlockGaps x = of("field 12;" + Edges.ewes(12) + "lie 0 - place * place;");
        then(x, "0123456789ab");
        then(x, "0123456789ab");
        then(of("field 12;" + Edges.beasts(12, "blind", 0)), "ba9876543210");
        then(of("field 12;" + Edges.beasts(12, "twin", 0)), "0123456789ab");
        then(of("field 1;beast a lame tone 0;lie 0 - 9;"), "0");
        then(of("field 3;beast a ewe tone 0;beast b ewe tone 0;beast c ewe tone 0;lie 2 * place - 9;"), "210");
        // the last has no choice
        then(of("field 3;beast a ewe tone 2;beast b ewe tone 0;beast c ewe tone 2;lie place = tone;"), "201");
        then(of("field 3;beast a ewe tone 0;beast b ewe tone 2;beast c twin tone 0;lie place = tone;"), "021");
    }

    private static void promise8_noOldPlaceOnTheFirstEvening() {
        Edges.sentence(8, "OLD is where it lay on the EVENING before, if it was not AWAY then.");
        FlockGaps x = of("field 4;beast a ewe tone 0;lie not old * (place = 2) + old * 5;");
        then(x, "2");
        then(x, "2");
        FlockGaps y = of("field 4;beast a ewe tone 0;lie not old;");
        then(y, "0");
        then(y, "1");
        then(y, "0");
    }

    private static void promise8_oldOfOneThatWasAway() {
        Edges.sentence(8, "OLD is where it lay on the EVENING before, if it was not AWAY then.");
        FlockGaps x = of("field 4;beast k leader tone 3;beast a ewe tone 3;lie (place = tone) + old * 9;");
        then(x, "30");
        x.away(0, false);
        then(x, ".0");
        // away and back with no evening between: it was not away on the evening before
        x.away(1, false);
        x.away(1, true);
        then(x, ".0");
        x.away(1, false);
        then(x, "..");
        x.away(1, true);
        then(x, ".3");
        x.undo();
        lie(x, "..");
        x.undo();
        x.undo();
        lie(x, "..");
        x.undo();
        lie(x, ".0");
        then(x, ".0");
    }

    private static void promise8_nothingIsToldOfFog() {
        Edges.sentence(8, "Then the EVENING is over: who lies next to whom has done so once more, and nothing is told of FOG.");
        FlockGaps x = of(PAIR);
        x.evening(1);
        x.seen(0, true);
        x.heard(9, 1);
        due("told", x.count(6), 2);
        x.evening(1);
        due("told", x.count(6), 0);
        due("fits()", x.fits(), 4);
        due("beside(0, 1)", x.beside(0, 1), 2);
    }

    // ---- promise 9

    private static void promise9_settledAsItIs() {
        Edges.sentence(9, "(as it is, 0 to 50)");
        FlockGaps x = of(PAIR);
        due("they do not lie yet", x.settled(), 1);
        x.evening(1);
        due("they lie", x.settled(), 0);
        x.away(0, false);
        due("one is away", x.settled(), 1);
        x.evening(1);
        due("they lie without it", x.settled(), 0);
        x.away(0, true);
        due("it is back", x.settled(), 1);
        due("nobody at all", of("").settled(), 0);
        FlockGaps y = of(Edges.ewes(2));
        y.away(0, false);
        y.away(1, false);
        due("all are away", y.settled(), 0);
    }

    private static void promise9_oneEveningLaterForEachBeast() {
        Edges.sentence(9, "the least n so that behind n and n + 1 EVENINGS they lie alike");
        // who lay at 0 moves on to the least free place, and pushes the next one to 0
        for (int n = 1; n <= 12; n++) {
            FlockGaps x = of("field " + (n + 1) + ";" + Edges.ewes(n) + "lie old * (4 * place - 1);");
            due("settled() of " + n, x.settled(), n + 1);
            x.evening(n);
            due("settled() of " + n + " behind " + n, x.settled(), 1);
            x.evening(1);
            due("settled() of " + n + " behind one more", x.settled(), 0);
            lie(x, "123456789abc".substring(0, n));
        }
    }

    private static void promise9_never() {
        Edges.sentence(9, "SETTLED; NONE: not so.");
        FlockGaps x = of("beast a ewe tone 0;lie not old;");
        due("settled()", x.settled(), -1);
        x.evening(50);
        due("settled()", x.settled(), -1);
        due("a field of one", of("field 1;beast a ewe tone 0;lie not old;").settled(), 1);
        FlockGaps y = of("beast a ewe tone 0;beast b ewe tone 1;lie not old * tone;");
        due("one of two", y.settled(), -1);
        y.away(1, false);
        due("without it", y.settled(), 1);
    }

    private static void promise9_theLeastThoughTheyMoveLater() {
        Edges.sentence(9, "the least n so that");
        FlockGaps x = of("field 4;beast a leader tone 0;beast f foreign tone 9;like a f 9;lie (place = tone) * 50 + (place = 3) + (liking = 9) * 2;");
        due("ahead of all", x.settled(), 1);
        x.evening(1);
        due("behind one", x.settled(), 0);
        x.evening(2);
        due("behind three: it likes more", x.settled(), 1);
        x.evening(1);
        due("behind four", x.settled(), 0);
    }

    private static void promise9_allIsAsAhead() {
        Edges.sentence(9, "all is as ahead then");
        FlockGaps x = of("field 4;beast a leader tone 0;beast f foreign tone 9;like a f 9;lie (place = tone) * 50 + (place = 3) + (liking = 9) * 2 - old;");
        x.evening(2);
        x.away(0, false);
        x.seen(3, true);
        x.mark(0, false);
        Edges.feed(x, "abc");
        String before = Edges.all(x);
        x.settled();
        Edges.due("all", Edges.all(x), before);
        due("the tape", x.count(8), 3);
        due("liking(0, 1)", x.liking(0, 1), 4);
        due("undo()", x.undo(), true);
        due("count(4)", x.count(4), 2);
        due("it is there", x.beast(0, 3), 0);
    }

    // ---- promise 10

    private static void promise10_othersAndTheSame() {
        Edges.sentence(10, "On how many EVENINGS two BEASTS lay next to one another; NONE: others, the same.");
        FlockGaps x = of(Edges.ewes(12));
        x.evening(50);
        for (int a = 0; a < 12; a++) {
            for (int b = 0; b < 12; b++) due("beside(" + a + ", " + b + ")", x.beside(a, b), a == b ? -1 : Math.abs(a - b) == 1 ? 50 : 0);
        }
        for (int b : FAR_OFF) {
            due("beside(0, " + b + ")", x.beside(0, b), -1);
            due("beside(" + b + ", 0)", x.beside(b, 0), -1);
            due("beside(" + b + ", " + b + ")", x.beside(b, b), -1);
        }
    }

    private static void promise10_theFirstAndTheLastPlaceAreNotNext() {
        Edges.sentence(10, "lay next to one another");
        FlockGaps x = of("field 16;beast a ewe tone 0;beast b blind tone 0;");
        x.evening(1);
        due("0 and 15", x.beside(0, 1), 0);
        FlockGaps y = of("field 16;beast a blind tone 0;beast b blind tone 0;");
        y.evening(3);
        due("15 and 14", y.beside(0, 1), 3);
        FlockGaps z = of("field 3;beast a ewe tone 0;beast b ewe tone 0;beast c ewe tone 0;");
        z.away(1, false);
        z.evening(1);
        due("0 and 1, with one between them away", z.beside(0, 2), 1);
    }

    private static void promise10_oneThatIsAwayLaySo() {
        Edges.sentence(10, "On how many EVENINGS two BEASTS lay next to one another");
        FlockGaps x = of(PAIR);
        due("none yet", x.beside(0, 1), 0);
        x.evening(2);
        x.away(0, false);
        x.evening(4);
        due("as they lay", x.beside(0, 1), 2);
        x.away(0, true);
        due("back", x.beside(0, 1), 2);
        x.evening(1);
        due("and one more", x.beside(1, 0), 3);
        x.undo();
        due("undone", x.beside(0, 1), 2);
    }

    // ---- promise 11

    private static void promise11_oneTo9999() {
        Edges.sentence(11, "FRIENDS: how many pairs (evenings 1 to 9999); NONE: others.");
        FlockGaps x = of(Edges.ewes(3));
        due("friends(1) with no evening", x.friends(1), 0);
        x.evening(1);
        for (int e : new int[] {0, -1, 10000, 10001, Integer.MIN_VALUE, Integer.MAX_VALUE}) due("friends(" + e + ")", x.friends(e), -1);
        due("friends(1)", x.friends(1), 2);
        due("friends(2)", x.friends(2), 0);
        due("friends(9999)", x.friends(9999), 0);
    }

    private static void promise11_on9999EveningsOrMore() {
        Edges.sentence(11, "pairs that lay next to one another on so many or more");
        FlockGaps x = of(Edges.ewes(3));
        for (int i = 0; i < 199; i++) x.evening(50);
        due("evening(48)", x.evening(48), 9998);
        due("friends(9998)", x.friends(9998), 2);
        due("friends(9999)", x.friends(9999), 0);
        x.evening(1);
        due("friends(9999)", x.friends(9999), 2);
        due("friends(10000)", x.friends(10000), -1);
        due("evening(50)", x.evening(50), 10049);
        due("friends(9999)", x.friends(9999), 2);
        due("beside(1, 2)", x.beside(1, 2), 10049);
        due("settled()", x.settled(), 0);
    }

    private static void promise11_eachPairOnce() {
        Edges.sentence(11, "FRIENDS: how many pairs");
        FlockGaps x = of(Edges.ewes(12));
        x.evening(3);
        due("all in a row", x.friends(3), 11);
        x.away(5, false);
        x.evening(1);
        due("one more, over the gap", x.friends(1), 12);
        due("friends(4)", x.friends(4), 9);
        due("friends(3)", x.friends(3), 11);
        due("friends(5)", x.friends(5), 0);
    }

    public static void main(String[] args) {
        Edges.run(EveningEdgesTest.class);
    }
}
