/** The E of lie and stray: how it is told (promise 3), what comes of it, and which facts are in it. */
public final class LawEdgesTest {
    private static FlockGaps of(String text) { return Edges.of(text); }
    private static void fault(String ahead, String rest, int kind) { Edges.fault(ahead, rest, kind); }
    private static void due(String call, long got, long want) { Edges.due(call, got, want); }

    /** That two expressions are equal, of a lame ewe's kind with tone 7: found by stray, where 1 of 2 are the odds then. */
    private static void strayed(String expression, String same) {
        FlockGaps x = of("beast a lame tone 7;meadow m grass 5 far 3;meadow n grass 1 far 1;"
                + "stray ((" + expression + ") = (" + same + ")) * (grass = 5) + (grass = 1);");
        x.away(0, false);
        due("the odds by (" + expression + ") = (" + same + "): above", x.odds(0, 0, 0), 1);
        due("the odds by (" + expression + ") = (" + same + "): below", x.odds(0, 0, 1), 2);
    }

    /** Likewise by lie: it lies at the second of two places then. */
    private static void lain(String expression, String same) {
        FlockGaps x = of("field 2;beast a lame tone 7;lie ((" + expression + ") = (" + same + ")) * (place = 1);");
        x.evening(1);
        due("the place by (" + expression + ") = (" + same + ")", x.beast(0, 2), 1);
    }

    private static void same(String expression, String value) {
        strayed(expression, value);
        lain(expression, value);
    }

    /** Where one lies on the first evening in a field of so many places. */
    private static void first(int places, String kind, String law, int place) {
        FlockGaps x = of("field " + places + ";beast a " + kind + " tone 4;lie " + law + ";");
        x.evening(1);
        due("the place in a field of " + places + " of one that is " + kind + " by lie " + law, x.beast(0, 2), place);
    }

    private static String brackets(int many, String inside) {
        return "(".repeat(many) + inside + ")".repeat(many);
    }

    // ---- how it is told

    private static void promise3_within4And5Brackets() {
        Edges.sentence(3, "no PART lies within 5 of not and ( )");
        for (String law : new String[] {"lie ", "stray "}) {
            for (int n = 0; n < 5; n++) of(law + brackets(n, "tone") + ";");
            fault(law + "(((((", "1)))));", 5);
            fault(law + "(((((", "tone)))));", 5);
            fault(law + "(((((", "not 1)))));", 5);
            fault(law + "(((((", "(1))))));", 5);
        }
    }

    private static void promise3_within4And5Nots() {
        Edges.sentence(3, "not, or a PART, within 5 others.");
        for (String law : new String[] {"lie ", "stray "}) {
            for (int n = 0; n < 5; n++) of(law + "not ".repeat(n) + "tone;");
            fault(law + "not not not not not ", "1;", 5);
            fault(law + "not not not not not ", "lame;", 5);
            fault(law + "not not not not not ", "not 1;", 5);
            fault(law + "not not not not not ", "(1);", 5);
        }
    }

    private static void promise3_within5OfBoth() {
        Edges.sentence(3, "no PART lies within 5 of not and ( )");
        of("lie not(not(1));");
        of("lie (not(not 1));");
        fault("lie not(not(not ", "1));", 5);
        fault("lie (not(not(", "1))));", 5);
    }

    private static void promise3_whatIsClosedIsNotAround() {
        Edges.sentence(3, "no PART lies within 5 of not and ( )");
        of("lie ((((1)))) + ((((2)))) * not not not not 3 < (((4 + 5) and 6) or 7);");
        of("lie (1 + (2 + (3 + (4 + 5 * 6 - 7) + 8) + 9) + 10);");
        fault("lie ((((1)))) + (((((", "2)))));", 5);
        fault("lie ((((1 + (", "2)))));", 5);
        fault("lie ((((1 + not ", "2))));", 5);
    }

    private static void promise3_partsThatCantStandThere() {
        Edges.sentence(3, "PART: a NUMBER, a fact, not PART, ( E )");
        for (String law : new String[] {"lie ", "stray "}) {
            for (String no : new String[] {";", ")", "+", "-", "*", "<", "=", "and", "or", "field", "ewe", "leader", "twin", "foreign", "a", "like", "?", ""}) {
                fault("beast a ewe tone 0;" + law, no, 1);
                fault("beast a ewe tone 0;" + law + "1 + ", no, 1);
                fault("beast a ewe tone 0;" + law + "not ", no, 1);
                fault("beast a ewe tone 0;" + law + "(", no, 1);
                fault("beast a ewe tone 0;" + law + "1 and ", no, 1);
            }
        }
    }

    private static void promise3_whatMayStandBehindAPart() {
        Edges.sentence(3, "TEST: SUM, or SUM < SUM, or SUM = SUM");
        of("lie 1 < 2 and 3 = 4 or 5 < 6;");
        fault("lie 1 < 2 ", "< 3;", 1);
        fault("lie 1 < 2 ", "= 3;", 1);
        fault("lie 1 = 2 ", "= 3;", 1);
        of("lie (1 < 2) < 3;");
        of("lie 1 < (2 = 3);");
        fault("lie 1 ", "2;", 1);
        fault("lie 1 ", "not 2;", 1);
        fault("lie 1 ", "(2);", 1);
        fault("lie 1 ", "tone;", 1);
        fault("lie 1", ");", 1);
        fault("lie (1", ";", 1);
        fault("lie (1 < 2 ", "< 3);", 1);
    }

    private static void promise3_factsOfLieAlone() {
        Edges.sentence(3, "in lie also liking ... place, room ... old (1 if that is its OLD PLACE), edge");
        for (String fact : new String[] {"liking", "place", "room", "old", "edge"}) {
            of("lie " + fact + ";");
            fault("stray ", fact + ";", 1);
            fault("stray 1 + ", fact + ";", 1);
            fault("lie " + fact + ";stray ", fact + ";", 1);
        }
    }

    private static void promise3_factsOfStrayAlone() {
        Edges.sentence(3, "in stray also grass, far (of the MEADOW), friends");
        for (String fact : new String[] {"grass", "far", "friends"}) {
            of("stray " + fact + ";");
            fault("lie ", fact + ";", 1);
            fault("lie 1 + ", fact + ";", 1);
            fault("stray " + fact + ";lie ", fact + ";", 1);
        }
    }

    private static void promise3_factsOfBoth() {
        Edges.sentence(3, "Facts of a BEAST: tone, lame, blind (1 if of that KIND, else 0)");
        of("lie tone + lame + blind;stray tone + lame + blind;");
        same("tone", "7");
        same("lame", "1");
        same("blind", "0");
        first(3, "blind", "(blind = 1) * (place = 1)", 1);
        first(3, "blind", "(lame = 0) * (place = 1)", 1);
        first(3, "ewe", "(lame + blind = 0) * (place = 1)", 1);
        first(3, "foreign", "(lame + blind = 0) * (place = 1)", 1);
        FlockGaps x = of("beast a blind tone 0;meadow m grass 5 far 1;meadow n grass 1 far 1;stray blind * 3 * (grass = 5) + (grass = 1) + lame * 50;");
        x.away(0, false);
        due("blind in stray", x.odds(0, 0, 0), 3);
    }

    private static void promise3_grassAndFarOfTheMeadow() {
        Edges.sentence(3, "in stray also grass, far (of the MEADOW)");
        FlockGaps x = of("beast a ewe tone 0;meadow m grass 0 far 99;meadow n grass 99 far 1;meadow o grass 7 far 5;stray far;");
        x.away(0, false);
        int[] far = {99, 1, 5};
        for (int m = 0; m < 3; m++) due("by far", x.odds(0, m, 0) * 105 / x.odds(0, m, 1), far[m]);
        FlockGaps y = of("beast a ewe tone 0;meadow m grass 0 far 99;meadow n grass 99 far 1;meadow o grass 7 far 5;stray grass + far;");
        y.away(0, false);
        int[] both = {99, 100, 12};
        for (int m = 0; m < 3; m++) due("by both", y.odds(0, m, 0) * 211 / y.odds(0, m, 1), both[m]);
    }

    private static void promise3_aBeastNamedAsAFact() {
        Edges.sentence(3, "PART: a NUMBER, a fact");
        FlockGaps x = of("beast place ewe tone 0;beast b ewe tone 0;field 4;lie place;");
        x.evening(1);
        Edges.due("the law is by the fact", Edges.lie(x), "32");
        fault("beast b ewe tone 0;lie ", "b;", 1);
    }

    private static void promise3_aLawAsLongAsTheTape() {
        Edges.sentence(3, "SUM: PRODUCT { + or - PRODUCT }; PRODUCT: PART { * PART }");
        strayedLong("0" + "+1".repeat(460), 460);
        strayedLong("9" + "*1".repeat(460), 9);
        strayedLong("0" + " or 1".repeat(180), 1);
        String text = "lie 1" + "+1".repeat(497) + ";";
        due("a text of 1,000 signs", text.length(), 1000);
        due("flock() of it", Edges.read(new FlockGaps(), text), 0);
    }

    /** That it is worth just so much: with as much taken off, nothing is above 0. */
    private static void strayedLong(String law, int worth) {
        FlockGaps x = of("beast a ewe tone 0;meadow m grass 1 far 9;stray (" + law + ")-" + (worth - 1) + ";");
        x.away(0, false);
        due("a long law of at least " + worth, x.search(0, 0), 9);
        FlockGaps y = of("beast a ewe tone 0;meadow m grass 1 far 9;stray (" + law + ")-" + worth + ";");
        y.away(0, false);
        due("a long law of at most " + worth, y.search(0, 0), -1);
    }

    private static void promise3_asMuchWaitsAsCan() {
        Edges.sentence(3, "no PART lies within 5 of not and ( )");
        String law = "1";
        for (int n = 0; n < 4; n++) law = "1 and 3 = 1 + 2 * (" + law + ")";
        FlockGaps y = of("beast a ewe tone 0;meadow m grass 1 far 9;stray " + law + ";");
        y.away(0, false);
        due("four operators wait at each of five levels", y.search(0, 0), 9);
        FlockGaps z = of("beast a ewe tone 0;meadow m grass 1 far 9;stray " + law.replace("(1)", "(2)") + ";");
        z.away(0, false);
        due("the innermost is wrong", z.search(0, 0), -1);
    }

    // ---- what comes of it

    private static void promise3_andOrFromTheLeft() {
        Edges.sentence(3, "E: TEST { and TEST or or TEST }, from the left");
        same("1 or 1 and 0", "0");
        same("0 and 0 or 1", "1");
        same("0 and 1 or 1 and 1", "1");
        same("1 or 0 and 0 or 0", "0");
        same("1 or (1 and 0)", "1");
    }

    private static void promise3_productsAheadOfSums() {
        Edges.sentence(3, "SUM: PRODUCT { + or - PRODUCT }; PRODUCT: PART { * PART }");
        same("1 + 2 * 3", "7");
        same("2 * 3 + 1", "7");
        same("20 - 3 - 2", "15");
        same("20 - (3 - 2)", "19");
        same("20 - 3 + 2", "19");
        same("20 - 3 * 2 * 2 - 1", "7");
        same("0 - 5", "4 - 9");
        same("0 * 9", "0");
    }

    private static void promise3_notIsOfThePartAlone() {
        Edges.sentence(3, "not PART");
        same("not 5 + 3", "3");
        same("not 0 + 3", "4");
        same("not 0 * 6", "6");
        same("not (0 * 6)", "1");
        same("not not 5", "1");
        same("not not 0", "0");
        same("not 1 = 0", "1");
        same("not 2 < 2", "1");
    }

    private static void promise3_of1Or0() {
        Edges.sentence(3, "Of not, and, or, < and = comes 1 or 0; what is not 0 is so");
        same("not 0", "1");
        same("not 1", "0");
        same("not 9999", "0");
        same("not (0 - 1)", "0");
        same("5 and 3", "1");
        same("5 and 0", "0");
        same("2 and 4", "1");
        same("(0 - 1) and (0 - 2)", "1");
        same("0 or 0", "0");
        same("0 or 7", "1");
        same("7 or 0", "1");
        same("7 or 7", "1");
        same("(0 - 3) or 0", "1");
        same("1 < 2", "1");
        same("2 < 2", "0");
        same("3 < 2", "0");
        same("0 - 1 < 0", "1");
        same("2 = 2", "1");
        same("1 = 2", "0");
        same("0 - 2 = 2", "0");
    }

    private static void promise3_aTestBindsLessThanASum() {
        Edges.sentence(3, "TEST: SUM, or SUM < SUM, or SUM = SUM");
        same("1 + 1 = 2", "1");
        same("1 + (1 = 2)", "1");
        same("3 * 3 < 5 + 5", "1");
        same("1 and 2 = 2", "1");
        same("5 = 5 and 2", "1");
        same("0 = 0 or 1 = 2 and 1", "1");
    }

    private static void promise3_intsWrap() {
        Edges.sentence(3, "ints wrap");
        // 4096 * 4096 * 128 is 2^31, the least int; twice that is 0
        same("4096 * 4096 * 128 < 0", "1");
        same("4096 * 4096 * 128 * 2", "0");
        same("4096 * 4096 * 128 - 1", "4096 * 4096 * 127 + (4096 * 4096 - 1)");
        same("4096 * 4096 * 128 - 1 < 0", "0");
        same("4096 * 4096 * 127 + 4096 * 4096 < 0", "1");
        same("0 - 4096 * 4096 * 128 < 0", "1");
        // 2499500025 is -1795467271 as an int
        same("9999 * 9999 * 25", "0 - 4096 * 4096 * 107 - 4096 * 74 - 2055");
        same("not (4096 * 4096 * 256)", "1");
    }

    private static void promise3_wrappedIntsInAnEvening() {
        Edges.sentence(3, "ints wrap");
        // behind the greatest int comes the least: at place 1 it is the least, at place 0 the greatest
        first(2, "ewe", "4096 * 4096 * 128 - 1 + place", 0);
        first(2, "ewe", "4096 * 4096 * 128 - place", 1);
        first(3, "blind", "4096 * 4096 * 128", 2);
        first(3, "ewe", "4096 * 4096 * 128", 0);
        first(3, "ewe", "4096 * 4096 * 128 + (place = 2)", 2);
        first(2, "ewe", "place * (4096 * 4096 * 128 - 1) + not place * 4096 * 4096 * 128", 1);
    }

    private static void promise3_withoutLieItIsLiking() {
        Edges.sentence(3, "Without lie: liking; without stray: grass.");
        FlockGaps x = of("field 5;beast a ewe tone 0;beast b blind tone 0;beast c ewe tone 0;like c b 1;");
        x.evening(1);
        Edges.due("c lies by b", Edges.lie(x), "043");
        FlockGaps y = of("beast a ewe tone 0;meadow m grass 2 far 9;meadow n grass 3 far 9;");
        y.away(0, false);
        due("odds by grass", y.odds(0, 0, 0) * 10 + y.odds(0, 0, 1), 25);
        FlockGaps z = of("field 5;beast a ewe tone 0;beast b ewe tone 0;meadow m grass 2 far 9;lie place;stray far;");
        due("told before, not told now", Edges.read(z, "beast a ewe tone 0;beast b ewe tone 0;like a b 3;meadow m grass 2 far 9;meadow n grass 3 far 9;"), 0);
        z.evening(1);
        Edges.due("by liking again", Edges.lie(z), "01");
        z.away(0, false);
        due("by grass again", z.odds(0, 0, 1), 5);
    }

    // ---- the facts of an evening

    private static void promise8_theFactPlace() {
        Edges.sentence(8, "place, room (how many PLACES next to it are free)");
        first(16, "ewe", "place", 15);
        first(16, "ewe", "0 - place", 0);
        first(16, "ewe", "place = 15", 15);
        first(16, "ewe", "place = 16", 0);
        first(1, "ewe", "place = 1", 0);
    }

    private static void promise8_theFactRoom() {
        Edges.sentence(8, "room (how many PLACES next to it are free)");
        first(5, "ewe", "room", 1);
        first(5, "blind", "room", 3);
        first(5, "ewe", "room = 1", 0);
        first(5, "blind", "room = 1", 4);
        first(5, "blind", "room = 0", 4);
        first(2, "ewe", "(room = 1) * place", 1);
        first(1, "ewe", "room", 0);
        FlockGaps x = of("field 5;beast a ewe tone 2;beast b ewe tone 0;beast c blind tone 0;beast d ewe tone 0;beast e ewe tone 0;lie (place = tone) * 9 * (0 < tone) + room * not tone;");
        x.evening(1);
        // a lies at 2; 0, 1, 3 and 4 have one free place next to them each: b takes 0, c the greatest, 4; then none has
        Edges.due("they lie", Edges.lie(x), "20413");
    }

    private static void promise8_theFactEdge() {
        Edges.sentence(8, "edge (1 if it is the first or the last PLACE)");
        first(5, "ewe", "edge", 0);
        first(5, "blind", "edge", 4);
        first(5, "ewe", "not edge", 1);
        first(5, "blind", "not edge", 3);
        first(16, "blind", "edge", 15);
        first(16, "blind", "not edge", 14);
        first(2, "ewe", "edge * place", 1);
        first(2, "blind", "not edge", 1);
        first(3, "blind", "not edge", 1);
        first(3, "ewe", "(place = 2) * (edge = 1)", 2);
        first(3, "ewe", "(place = 1) * (edge = 0)", 1);
    }

    private static void promise8_aFieldOfOneIsAllEdge() {
        Edges.sentence(8, "edge (1 if it is the first or the last PLACE)");
        FlockGaps x = of("field 1;beast a blind tone 0;lie edge;");
        due("evening(1)", x.evening(1), 1);
        due("it lies", x.beast(0, 2), 0);
        due("settled()", x.settled(), 0);
    }

    private static void promise8_theFactLiking() {
        Edges.sentence(8, "liking (how much it likes those that lie at the PLACES next to that one, together)");
        FlockGaps x = of("field 6;beast a ewe tone 1;beast b ewe tone 3;beast c ewe tone 9;like a c 5;like b c 6;lie (place = tone) * 99 + liking;");
        x.evening(1);
        // c: at 0 it is 5, at 2 both, at 4 it is 6
        Edges.due("between both", Edges.lie(x), "132");
        FlockGaps y = of("field 6;beast a ewe tone 1;beast b ewe tone 4;beast c ewe tone 9;like a c 5;like b c 6;lie (place = tone) * 99 + liking;");
        y.evening(1);
        Edges.due("by the one it likes more", Edges.lie(y), "143");
        FlockGaps z = of("field 6;beast c ewe tone 0;beast a ewe tone 1;like a c 5;lie (liking = 5) * (place = 3) + (place = tone + 1);");
        z.evening(1);
        // c lies ahead of a, and those that do not lie yet count for nothing
        Edges.due("by those that lie already", Edges.lie(z), "12");
    }

    private static void promise8_theFactToneOfEach() {
        Edges.sentence(8, "Each lies at the free PLACE of the greatest E");
        FlockGaps x = of("field 10;beast a ewe tone 0;beast b ewe tone 9;beast c ewe tone 5;lie place = tone;");
        x.evening(1);
        Edges.due("each at the place of its tone", Edges.lie(x), "095");
    }

    public static void main(String[] args) {
        Edges.run(LawEdgesTest.class);
    }
}
