/** ODDS, SEARCH and PARTED: the bounds of promises 20 to 22. */
public final class StrayEdgesTest {
    private static final int[] NO_BEASTS = {Integer.MIN_VALUE, -2, -1, 12, 13, 31, 32, 33, 64, Integer.MAX_VALUE};

    private static FlockGaps of(String text) { return Edges.of(text); }
    private static void due(String call, long got, long want) { Edges.due(call, got, want); }

    /** A new object of that flock whose first beast is away. */
    private static FlockGaps strayed(String text) {
        FlockGaps x = of(text);
        x.away(0, false);
        return x;
    }

    /** One beast and as many meadows as the rows say, each "grass far". */
    private static FlockGaps meadows(String law, String... rows) {
        StringBuilder s = new StringBuilder("beast a ewe tone 0;");
        for (int i = 0; i < rows.length; i++) {
            String[] row = rows[i].split(" ");
            s.append("meadow m").append((char) ('a' + i)).append(" grass ").append(row[0]).append(" far ").append(row[1]).append(';');
        }
        return strayed(s + law);
    }

    private static String odds(FlockGaps x, int beast) {
        StringBuilder s = new StringBuilder();
        for (int m = 0; m < x.count(3); m++) s.append(m > 0 ? " " : "").append(x.odds(beast, m, 0)).append('/').append(x.odds(beast, m, 1));
        return s.toString();
    }

    private static String order(FlockGaps x) {
        StringBuilder s = new StringBuilder();
        for (int m = 0; m < x.count(3); m++) s.append(x.search(0, 2 + m));
        return s.toString();
    }

    private static void search(FlockGaps x, String order, long above, long below) {
        Edges.due("the order", order(x), order);
        due("search(0, 0)", x.search(0, 0), above);
        due("search(0, 1)", x.search(0, 1), below);
    }

    // ---- promise 20

    private static void promise20_others() {
        Edges.sentence(20, "NONE: others, it is not AWAY, no E is above 0.");
        FlockGaps x = of(Edges.ewes(12) + Edges.meadows(6));
        for (int b = 0; b < 12; b++) due("not AWAY", x.odds(b, 0, 0), -1);
        for (int b = 0; b < 12; b++) x.away(b, false);
        for (int b : NO_BEASTS) due("odds(" + b + ", 0, 0)", x.odds(b, 0, 0), -1);
        for (int m : new int[] {Integer.MIN_VALUE, -2, -1, 6, 7, 32, Integer.MAX_VALUE}) due("odds(0, " + m + ", 0)", x.odds(0, m, 0), -1);
        for (int w : new int[] {Integer.MIN_VALUE, -1, 2, 3, Integer.MAX_VALUE}) due("odds(0, 0, " + w + ")", x.odds(0, 0, w), -1);
        Edges.due("the first beast", odds(x, 0), "1/6 1/6 1/6 1/6 1/6 1/6");
        Edges.due("the last beast", odds(x, 11), "1/6 1/6 1/6 1/6 1/6 1/6");
        x.away(11, true);
        due("BACK", x.odds(11, 0, 0), -1);
        FlockGaps y = strayed(Edges.ewes(2) + Edges.meadows(2));
        due("one meadow above", y.odds(0, 2, 0), -1);
        due("one beast above", y.odds(2, 0, 0), -1);
    }

    private static void promise20_below0AndAbove9999() {
        Edges.sentence(20, "the E of stray (0 if it is below, 9,999 if it is above) by those of all MEADOWS together");
        Edges.due("0 - 1 is 0", odds(meadows("stray grass - 5;", "4 1", "5 1", "6 1", "7 1"), 0), "0/1 0/1 1/3 2/3");
        Edges.due("far below", odds(meadows("stray grass - 9999 * (grass < 5);", "4 1", "6 1"), 0), "0/1 1/1");
        Edges.due("9998", odds(meadows("stray 9998 * grass + not grass;", "1 1", "0 1"), 0), "9998/9999 1/9999");
        Edges.due("9999", odds(meadows("stray 9999 * grass + not grass;", "1 1", "0 1"), 0), "9999/10000 1/10000");
        Edges.due("10000", odds(meadows("stray 9999 * grass + 1;", "1 1", "0 1"), 0), "9999/10000 1/10000");
        Edges.due("far above", odds(meadows("stray 9999 * grass * 9999 + 1;", "1 1", "0 1"), 0), "9999/10000 1/10000");
        Edges.due("both above", odds(meadows("stray 9999 * grass;", "2 1", "99 1"), 0), "1/2 1/2");
        // 2^31 is the least int
        Edges.due("wrapped", odds(meadows("stray 4096 * 4096 * 128 * grass + 1 * (grass = 0) * 3;", "1 1", "0 1"), 0), "0/1 1/1");
        Edges.due("all six above", odds(meadows("stray 9999 * 9;", "0 1", "1 1", "2 1", "3 1", "4 1", "5 1"), 0), "1/6 1/6 1/6 1/6 1/6 1/6");
    }

    private static void promise20_of0Together() {
        Edges.sentence(20, "no E is above 0");
        FlockGaps x = meadows("", "0 1", "0 9");
        Edges.due("all 0", odds(x, 0), "-1/-1 -1/-1");
        Edges.due("0 and below", odds(meadows("stray grass - 5;", "5 1", "0 1"), 0), "-1/-1 -1/-1");
        Edges.due("all below", odds(meadows("stray 0 - 1;", "5 1"), 0), "-1/-1");
        due("no MEADOW", strayed(Edges.ewes(1)).odds(0, 0, 0), -1);
        Edges.due("one is 1", odds(meadows("", "0 1", "1 1"), 0), "0/1 1/1");
        Edges.due("one MEADOW", odds(meadows("", "1 1"), 0), "1/1");
        Edges.due("one MEADOW", odds(meadows("", "99 99"), 0), "1/1");
    }

    private static void promise20_lowestTerms() {
        Edges.sentence(20, "ODDS, what 0: above, 1: below, in lowest terms");
        Edges.due("6 and 9", odds(meadows("", "6 1", "9 1"), 0), "2/5 3/5");
        Edges.due("0, 50 and 50", odds(meadows("", "0 1", "50 1", "50 1"), 0), "0/1 1/2 1/2");
        Edges.due("1, 99", odds(meadows("", "1 1", "99 1"), 0), "1/100 99/100");
        Edges.due("7 and 13", odds(meadows("", "7 1", "13 1"), 0), "7/20 13/20");
    }

    private static void promise20_friendsThatAreAway() {
        Edges.sentence(20, "friends (how many BEASTS it likes are away, too)");
        FlockGaps x = strayed(Edges.ewes(4) + "like a b 1;like a c 99;like b d 5;meadow m grass 0 far 1;meadow n grass 1 far 1;stray friends * grass + not grass;");
        Edges.due("none", odds(x, 0), "1/1 0/1");
        x.away(3, false);
        Edges.due("one that it does not like", odds(x, 0), "1/1 0/1");
        x.away(1, false);
        Edges.due("one", odds(x, 0), "1/2 1/2");
        Edges.due("of b it is two", odds(x, 1), "1/3 2/3");
        x.away(2, false);
        Edges.due("two", odds(x, 0), "1/3 2/3");
        x.away(1, true);
        Edges.due("one is back", odds(x, 0), "1/2 1/2");
        FlockGaps y = strayed(Edges.ewes(12) + "like a b 1;like a c 1;like a d 1;like a e 1;like a f 1;like a g 1;like a h 1;like a i 1;like a j 1;like a k 1;like a l 1;"
                + "meadow m grass 0 far 1;meadow n grass 1 far 1;stray friends * grass + not grass;");
        for (int b = 1; b < 12; b++) y.away(b, false);
        Edges.due("eleven", odds(y, 0), "1/12 11/12");
        Edges.due("of l it is one", odds(y, 11), "1/2 1/2");
    }

    private static void promise20_friendsThatAreForeign() {
        Edges.sentence(20, "friends (how many BEASTS it likes are away, too)");
        FlockGaps x = strayed("beast a ewe tone 0;beast f foreign tone 0;beast g foreign tone 0;like a f 1;like a g 2;"
                + "meadow m grass 0 far 1;meadow n grass 1 far 1;stray friends * grass + not grass;");
        x.away(1, false);
        Edges.due("half of 1, cut, is no liking", odds(x, 0), "1/1 0/1");
        x.away(2, false);
        Edges.due("half of 2 is one", odds(x, 0), "1/2 1/2");
    }

    // ---- promise 21

    private static void promise21_others() {
        Edges.sentence(21, "2 + i: the i-th MEADOW; NONE: likewise.");
        FlockGaps x = of(Edges.ewes(12) + Edges.meadows(6));
        for (int b = 0; b < 12; b++) due("not AWAY", x.search(b, 0), -1);
        for (int b = 0; b < 12; b++) x.away(b, false);
        for (int b : NO_BEASTS) for (int w = 0; w < 4; w++) due("search(" + b + ", " + w + ")", x.search(b, w), -1);
        for (int w : new int[] {Integer.MIN_VALUE, -2, -1, 8, 9, 32, Integer.MAX_VALUE}) due("search(11, " + w + ")", x.search(11, w), -1);
        for (int i = 0; i < 6; i++) due("search(11, " + (2 + i) + ")", x.search(11, 2 + i), i);
        x.away(11, true);
        due("BACK", x.search(11, 2), -1);
        FlockGaps y = strayed(Edges.ewes(2) + Edges.meadows(1));
        due("search(0, 2)", y.search(0, 2), 0);
        due("search(0, 3) with one MEADOW", y.search(0, 3), -1);
    }

    private static void promise21_noMeadowAndNoE() {
        Edges.sentence(21, "NONE: likewise.");
        FlockGaps x = strayed(Edges.ewes(1));
        for (int w = -1; w < 4; w++) due("search(0, " + w + ") with no MEADOW", x.search(0, w), -1);
        FlockGaps y = meadows("", "0 1", "0 2");
        for (int w = -1; w < 5; w++) due("search(0, " + w + ") with no E above 0", y.search(0, w), -1);
    }

    private static void promise21_oneMeadow() {
        Edges.sentence(21, "finds the BEAST there at the end of these");
        search(meadows("", "1 1"), "0", 1, 1);
        search(meadows("", "99 99"), "0", 99, 1);
        search(meadows("stray 9999;", "0 99"), "0", 99, 1);
    }

    private static void promise21_equalOrders() {
        Edges.sentence(21, "the mean of minutes is least; of equal ones the first order (numbers of MEADOWS)");
        search(meadows("", "5 2", "5 2", "5 2"), "012", 4, 1);
        // 2 by 4, 1 by 2, 3 by 6: all orders are equal: 2 * 4 + 3 * 2 + 6 * 6 = 50 of 12
        search(meadows("", "4 2", "2 1", "6 3"), "012", 25, 6);
        // 3 by 6 and 1 by 2 are equal, 1 by 9 is better, 9 by 1 worse
        // 9 * 1 + 6 * 4 + 2 * 5 + 1 * 14 = 57 of 18
        search(meadows("", "1 9", "6 3", "9 1", "2 1"), "2130", 19, 6);
        search(meadows("", "99 99", "98 98", "1 1"), "012", 99 * 99 + 98 * 197 + 198, 198);
    }

    private static void promise21_whereItIsNot() {
        Edges.sentence(21, "a dog goes to all MEADOWS one behind the other");
        search(meadows("", "0 1", "5 99", "0 2", "0 1"), "1023", 99, 1);
        search(meadows("", "0 99", "1 99", "0 1", "9 1", "0 50", "0 7"), "310245", 9 + 100, 10);
        search(meadows("stray grass - 5;", "2 1", "5 1", "6 50"), "201", 50, 1);
    }

    private static void promise21_theLeastMean() {
        Edges.sentence(21, "SEARCH, what 0: above, 1: below (the mean, in lowest terms)");
        // 1 by 99 first: 99 * 1 + 1 * 100 of 100
        search(meadows("", "1 99", "99 1"), "10", 199, 100);
        search(meadows("", "3 4", "4 5"), "10", 4 * 5 + 3 * 9, 7);
        search(meadows("", "4 5", "3 4"), "01", 4 * 5 + 3 * 9, 7);
        search(meadows("", "2 2", "2 4"), "01", 4, 1);
        // 1 + 3 + 6 + 10 + 15 + 21 = 56 of 6
        search(meadows("", "1 6", "1 5", "1 4", "1 3", "1 2", "1 1"), "543210", 28, 3);
    }

    private static void promise21_theGreatestMean() {
        Edges.sentence(21, "to each for as many minutes as it is far");
        // six meadows of 99 minutes and 9,999 each: 99 * 21 of 6
        search(meadows("stray 9999;", "0 99", "0 99", "0 99", "0 99", "0 99", "0 99"), "012345", 693, 2);
        search(meadows("stray 9999 - grass;", "0 99", "1 99", "2 99", "3 99", "4 99", "5 99"), "012345",
                (9999L + 2 * 9998 + 3 * 9997 + 4 * 9996 + 5 * 9995 + 6 * 9994) * 99 / 3, (9999 * 6 - 15) / 3);
    }

    // ---- promise 22

    private static final String FOUR = Edges.ewes(4) + "like a b 5;like c d 7;like b c 2;";

    private static void parted(FlockGaps x, int many, int with, int without, int unrest, int bunch) {
        String call = "parted(" + many + ", " + with + ", " + without + ", ";
        due(call + "0)", x.parted(many, with, without, 0), unrest);
        due(call + "1)", x.parted(many, with, without, 1), bunch);
    }

    private static void promise22_nobodyAndAll() {
        Edges.sentence(22, "many 0 to all");
        FlockGaps x = of(FOUR);
        parted(x, 0, 0, 0, 0, 0);
        parted(x, 0, 0, 15, 0, 0);
        parted(x, 4, 0, 0, 0, 15);
        parted(x, 4, 15, 0, 0, 15);
        for (int many : new int[] {Integer.MIN_VALUE, -1, 5, 6, 12, 32, Integer.MAX_VALUE}) parted(x, many, 0, 0, -1, -1);
        FlockGaps y = of(Edges.ewes(12) + "like a l 99;");
        parted(y, 12, 0, 0, 0, 4095);
        parted(y, 12, 4095, 0, 0, 4095);
        parted(y, 0, 0, 4095, 0, 0);
        parted(y, 13, 0, 0, -1, -1);
        parted(y, 11, 1, 0, 0, 4095 - 1024);
        parted(y, 11, 0, 1, 99, 4094);
    }

    private static void promise22_noneCan() {
        Edges.sentence(22, "nothing in both), none can");
        FlockGaps x = of(FOUR);
        parted(x, 0, 1, 0, -1, -1);
        parted(x, 1, 3, 0, -1, -1);
        parted(x, 4, 0, 8, -1, -1);
        parted(x, 3, 0, 3, -1, -1);
        parted(x, 2, 3, 12, 2, 3);
        parted(x, 1, 3, 12, -1, -1);
        parted(x, 3, 3, 12, -1, -1);
    }

    private static void promise22_setsOfBeastsTold() {
        Edges.sentence(22, "both sets of BEASTS told, nothing in both");
        FlockGaps x = of(FOUR);
        for (int bits : new int[] {16, 17, 32, 1 << 12, 1 << 30, -1, -16, Integer.MIN_VALUE, Integer.MAX_VALUE}) {
            parted(x, 2, bits, 0, -1, -1);
            parted(x, 2, 0, bits, -1, -1);
        }
        parted(x, 2, 1, 1, -1, -1);
        parted(x, 2, 3, 2, -1, -1);
        parted(x, 2, 8, 9, -1, -1);
        parted(x, 1, 8, 0, 7, 8);
        parted(x, 1, 0, 8, 5, 1);
        FlockGaps y = of(Edges.ewes(12));
        parted(y, 1, 2048, 0, 0, 2048);
        parted(y, 1, 4096, 0, -1, -1);
        parted(y, 1, 0, 4096, -1, -1);
        parted(y, 1, 0, 2047, 0, 2048);
    }

    private static void promise22_ofEqualOnesTheLeastAsBits() {
        Edges.sentence(22, "the least UNREST (LIKINGS between one in and one not in, together); of equal ones the least as bits");
        FlockGaps x = of(FOUR);
        parted(x, 2, 0, 0, 2, 3);
        parted(x, 2, 4, 0, 2, 12);
        parted(x, 2, 5, 0, 5 + 2 + 7, 5);
        parted(x, 1, 0, 0, 5, 1);
        parted(x, 3, 0, 0, 5, 14);
        parted(of(Edges.ewes(12)), 6, 0, 0, 0, 63);
        parted(of(Edges.ewes(12)), 6, 0, 1, 0, 126);
        parted(of(Edges.ewes(12)), 6, 2048, 0, 0, 2048 + 31);
    }

    private static void promise22_anotherWhat() {
        Edges.sentence(22, "PARTED, what 0: UNREST, 1: the bunch as bits; NONE: others");
        FlockGaps x = of(FOUR);
        for (int what : new int[] {Integer.MIN_VALUE, -1, 2, 3, Integer.MAX_VALUE}) due("parted(2, 0, 0, " + what + ")", x.parted(2, 0, 0, what), -1);
    }

    private static void promise22_ofAllBeasts() {
        Edges.sentence(22, "PARTED: of all BEASTS so many in a bunch");
        FlockGaps x = of("beast a ewe tone 0;beast f foreign tone 0;like a f 99;");
        parted(x, 1, 0, 0, 49, 1);
        x.away(0, false);
        x.away(1, false);
        parted(x, 1, 0, 0, 49, 1);
        parted(x, 2, 0, 0, 0, 3);
        x.away(1, true);
        x.evening(3);
        parted(x, 1, 0, 0, 99, 1);
    }

    private static void promise22_theGreatestUnrest() {
        Edges.sentence(22, "LIKINGS between one in and one not in, together");
        StringBuilder s = new StringBuilder(Edges.ewes(11));
        for (char a = 'a'; a < 'l'; a++) for (char b = 'a'; b < a; b++) s.append("like ").append(a).append(' ').append(b).append(" 99;");
        FlockGaps x = of(s.toString());
        parted(x, 5, 0, 0, 30 * 99, 31);
        parted(x, 6, 1 << 10, 0, 30 * 99, (1 << 10) + 31);
        parted(x, 1, 0, 0, 10 * 99, 1);
    }

    public static void main(String[] args) {
        Edges.run(StrayEdgesTest.class);
    }
}
