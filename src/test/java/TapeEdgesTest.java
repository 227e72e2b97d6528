/** The TAPE and its TOKENS: promise 1, promise 2, and of promise 3 what is told of signs. */
public final class TapeEdgesTest {
    private static final long BLANKS = 0x2020202020202020L;

    private static int feed(FlockGaps x, String text) { return Edges.feed(x, text); }
    private static void due(String call, long got, long want) { Edges.due(call, got, want); }

    private static void promise1_noBeastIsInANewObject() {
        Edges.sentence(1, "No BEAST.");
        FlockGaps x = new FlockGaps();
        int[] counts = {0, 12, 0, 0, 0, 0, 0, 0, 0};
        for (int i = 0; i < counts.length; i++) due("count(" + i + ")", x.count(i), counts[i]);
        for (int what = 0; what < 5; what++) due("beast(0, " + what + ")", x.beast(0, what), -1);
        due("liking(0, 1)", x.liking(0, 1), -1);
        due("beside(0, 1)", x.beside(0, 1), -1);
        for (int p = -1; p < 13; p++) due("place(" + p + ")", x.place(p), -1);
        Edges.due("away(0, false)", x.away(0, false), false);
        Edges.due("away(0, true)", x.away(0, true), false);
        due("uneasy(0, 1, true)", x.uneasy(0, 1, true), -1);
        due("odds(0, 0, 0)", x.odds(0, 0, 0), -1);
        due("search(0, 0)", x.search(0, 0), -1);
        due("friends(1)", x.friends(1), 0);
        due("settled()", x.settled(), 0);
        due("evening(1)", x.evening(1), 1);
        due("flock() of nothing", x.flock(), 0);
    }

    private static void promise1_theGapsOfNobody() {
        Edges.sentence(1, "No BEAST.");
        FlockGaps x = new FlockGaps();
        due("fits()", x.fits(), 1);
        due("fit(0)", x.fit(0), 0);
        due("fit(1)", x.fit(1), -1);
        due("sure(false)", x.sure(false), 0);
        due("sure(true)", x.sure(true), 0);
        due("looks(0)", x.looks(0), 0);
        due("looks(1)", x.looks(1), -1);
        due("seen(11, true)", x.seen(11, true), 1);
        due("seen(12, true)", x.seen(12, true), -1);
        due("heard(1, 0)", x.heard(1, 0), 2);
        due("fits()", x.fits(), 1);
        due("heard(1, 1)", x.heard(1, 1), 3);
        due("fits()", x.fits(), 0);
        due("parted(0, 0, 0, 0)", x.parted(0, 0, 0, 0), 0);
        due("parted(0, 0, 0, 1)", x.parted(0, 0, 0, 1), 0);
        due("parted(1, 0, 0, 0)", x.parted(1, 0, 0, 0), -1);
        due("parted(0, 1, 0, 0)", x.parted(0, 1, 0, 0), -1);
        due("parted(0, 0, 1, 0)", x.parted(0, 0, 1, 0), -1);
        Edges.due("undo()", x.undo(), false);
        for (int m = -1; m < 5; m++) Edges.due("mark(" + m + ", true)", x.mark(m, true), false);
    }

    private static void promise1_anotherObjectIsNotChanged() {
        Edges.sentence(1, "`FlockGaps()`: No BEAST.");
        FlockGaps x = Edges.of("field 3;" + Edges.ewes(2));
        x.evening(2);
        x.mark(0, false);
        FlockGaps y = new FlockGaps();
        due("count(0) of a second one", y.count(0), 0);
        due("count(4) of a second one", y.count(4), 0);
        Edges.due("mark(0, true) of a second one", y.mark(0, true), false);
        due("count(0) of the first one", x.count(0), 2);
    }

    private static void promise2_nothingIsFed() {
        Edges.sentence(2, "Up to 24 signs come behind the TAPE");
        FlockGaps x = new FlockGaps();
        due("feed of no sign", x.feed(0, 0, 0), 0);
        due("feed of one", x.feed(0, 0, 'a'), 1);
        due("feed of no sign", x.feed(0, 0, 0), 1);
        due("feed of 24", x.feed(BLANKS, BLANKS, BLANKS), 25);
        due("count(8)", x.count(8), 25);
    }

    private static void promise2_highestByteFirst() {
        Edges.sentence(2, "the bytes of a, b, c, of each the highest first");
        FlockGaps x = new FlockGaps();
        // "field 7;" in a alone, then parted over a, b and c
        due("feed", x.feed(0x6669656c6420373bL, 0, 0), 8);
        due("flock()", x.flock(), 0);
        due("count(1)", x.count(1), 7);
        due("feed", x.feed(0x6669650000000000L, 0x00006c6420000000L, 0x000000000000393bL), 8);
        due("flock()", x.flock(), 0);
        due("count(1)", x.count(1), 9);
        due("feed", x.feed(0x393b000000000000L, 0x6669656c64200000L, 0), 8);
        due("flock() of 9;field", x.flock(), 1);
    }

    private static void promise2_eachByteAlone() {
        Edges.sentence(2, "others than 10 and 32 .. 126 ... are left out");
        for (int sign = 0; sign < 256; sign++) {
            int want = sign == 10 || sign >= 32 && sign <= 126 ? 1 : 0;
            due("feed of byte " + sign + " as the lowest of c", new FlockGaps().feed(0, 0, sign), want);
            due("feed of byte " + sign + " as the highest of a", new FlockGaps().feed((long) sign << 56, 0, 0), want);
            due("feed of byte " + sign + " in b", new FlockGaps().feed(0, (long) sign << 24, 0), want);
        }
    }

    private static void promise2_whatIsLeftOutPartsNothing() {
        Edges.sentence(2, "others than 10 and 32 .. 126, and what is beyond 1,000, are left out");
        FlockGaps x = new FlockGaps();
        due("feed of fi, 9, eld", feed(x, "fi\teld 1\u007f6\u001f;\u00ff\r"), 9);
        due("flock()", x.flock(), 0);
        due("count(1)", x.count(1), 16);
    }

    private static void promise2_999And1000And1001Signs() {
        Edges.sentence(2, "what is beyond 1,000, are left out");
        FlockGaps x = new FlockGaps();
        due("feed of 999", feed(x, " ".repeat(999)), 999);
        due("one more", x.feed(0, 0, ' '), 1000);
        due("one more still", x.feed(0, 0, ' '), 1000);
        due("24 more", x.feed(BLANKS, BLANKS, BLANKS), 1000);
        due("count(8)", x.count(8), 1000);
        FlockGaps y = new FlockGaps();
        feed(y, " ".repeat(984));
        due("24 where 16 have room", y.feed(BLANKS, BLANKS, BLANKS), 1000);
    }

    private static void promise2_theFirst1000AreKept() {
        Edges.sentence(2, "what is beyond 1,000, are left out: how many there are.");
        FlockGaps x = new FlockGaps();
        feed(x, " ".repeat(992) + "field 3;xyz");
        due("count(8)", x.count(8), 1000);
        due("flock()", x.flock(), 0);
        due("count(1)", x.count(1), 3);
        feed(x, " ".repeat(993) + "field 4;");
        due("flock() without the last sign", x.flock(), 1 + 16 * 1000);
        due("count(1)", x.count(1), 3);
    }

    private static void promise2_takenItIsEmpty() {
        Edges.sentence(2, "what reads it takes it: it is empty then");
        FlockGaps x = new FlockGaps();
        feed(x, " ".repeat(1000));
        due("flock()", x.flock(), 0);
        due("count(8)", x.count(8), 0);
        due("full again", feed(x, "x".repeat(1000)), 1000);
        due("flock() with a fault", x.flock(), 1);
        due("count(8)", x.count(8), 0);
        due("flock() of what is left: nothing", x.flock(), 0);
        due("feed from the start", x.feed(0, 0, ' '), 1);
    }

    private static void promise2_nothingElseReadsTheTape() {
        Edges.sentence(2, "Up to 24 signs come behind the TAPE");
        FlockGaps x = Edges.of(Edges.ewes(3));
        feed(x, "field ");
        Edges.all(x);
        x.evening(1);
        x.undo();
        x.mark(0, false);
        feed(x, "9");
        x.mark(0, true);
        feed(x, ";");
        due("count(8)", x.count(8), 8);
        due("flock()", x.flock(), 0);
        due("count(1)", x.count(1), 9);
    }

    private static void promise3_anEmptyTextIsAFlock() {
        Edges.sentence(3, "FLOCK: any number of");
        FlockGaps x = Edges.of("field 3;" + Edges.ewes(2) + "like a b 5;" + Edges.meadows(2));
        x.evening(1);
        due("flock() of an empty text", x.flock(), 0);
        int[] counts = {0, 12, 0, 0, 0, 0, 0, 0, 0};
        for (int i = 0; i < counts.length; i++) due("count(" + i + ")", x.count(i), counts[i]);
        due("flock() of blanks alone", Edges.read(x, " \n \n"), 0);
    }

    private static void promise3_wordOf8And9Letters() {
        Edges.sentence(3, "WORDS (letters a .. z, 8 at most)");
        due("8 letters", Edges.of("beast abcdefgh ewe tone 0;").count(0), 1);
        due("8 letters z", Edges.of("beast zzzzzzzz ewe tone 0;beast zzzzzzzy ewe tone 0;").count(0), 2);
        Edges.fault("beast ", "abcdefghi ewe tone 0;", 1);
        Edges.fault("beast ", "aaaaaaaaa ewe tone 0;", 1);
        Edges.fault("beast ", "zzzzzzzzzzzzzzzzzzzzzzzzzzzzzz ewe tone 0;", 1);
        Edges.fault("", "fieldfield 3;", 1);
        Edges.fault("", "fieldx 3;", 1);
    }

    private static void promise3_lettersAreAToZAlone() {
        Edges.sentence(3, "WORDS (letters a .. z");
        due("a and z", Edges.of("beast a ewe tone 0;beast z ewe tone 0;like a z 2;").liking(0, 1), 2);
        for (char c : new char[] {'A', 'Z', '`', '{', '_', '@', '['}) {
            Edges.fault("beast ", c + " ewe tone 0;", 1);
            Edges.fault("beast a", c + " ewe tone 0;", 1);
        }
    }

    private static void promise3_longerWordOrNumberAtItsFirstSign() {
        Edges.sentence(3, "All else (a longer WORD or NUMBER, too, at its first sign) is none.");
        Edges.fault("lie 1 ", "andandand 2;", 1);
        Edges.fault("lie 1 + ", "12345;", 1);
        Edges.fault("lie 1 + ", "12345abcdefghijk;", 1);
        Edges.fault("field 3;", "abcdefghijkl", 1);
        Edges.fault("field 3;", "00000", 1);
    }

    private static void promise3_numberOf1And4And5Digits() {
        Edges.sentence(3, "NUMBERS (1 to 4 digits");
        due("1 digit", Edges.of("field 7;").count(1), 7);
        due("4 digits", Edges.of("field 0007;").count(1), 7);
        Edges.fault("field ", "00007;", 1);
        Edges.fault("field ", "10000;", 1);
        Edges.fault("field ", "9999;", 4);
        Edges.of("lie 9999;stray 0000;");
        Edges.fault("lie ", "99999;", 1);
        Edges.fault("lie ", "123456789012345678901234567890;", 1);
    }

    private static void promise3_digitsAre0To9Alone() {
        Edges.sentence(3, "NUMBERS (1 to 4 digits");
        Edges.of("lie 0123 + 4567 + 89;");
        for (char c : new char[] {'/', ':', '.', ','}) {
            Edges.fault("lie ", c + ";", 1);
            Edges.fault("lie 1", c + ";", 1);
        }
    }

    private static void promise3_aLetterRightBehindANumber() {
        Edges.sentence(3, "a letter may stand right behind");
        Edges.of("lie 1or 2and 3;");
        due("far right behind", Edges.of("meadow m grass 1far 2;").count(3), 1);
        due("9999 and a letter", Edges.read(new FlockGaps(), "lie 9999or 1;"), 0);
        Edges.fault("field 3", "x;", 1);
        Edges.fault("lie 1", "orx 2;", 1);
    }

    private static void promise3_aNumberRightBehindAWord() {
        Edges.sentence(3, "blanks (10, 32) between where one likes");
        due("tone5 is tone 5", Edges.of("beast a ewe tone5;").beast(0, 1), 5);
        due("no blank at a sign", Edges.of("field 3;beast a ewe tone 1;beast b ewe tone 2;like a b 9;lie(1+2)*3-tone<4;").liking(0, 1), 9);
        due("many blanks", Edges.of("\n\n  field \n 3\n\n;\n").count(1), 3);
        Edges.fault("", "fi eld 3;", 1);
        Edges.fault("field 1 ", "6;", 1);
        Edges.fault("beast a ewe ", "tonefive;", 1);
    }

    private static void promise3_eachSignBehindAPart() {
        Edges.sentence(3, "the signs ( ) < = + - * ;");
        for (char c = 33; c < 127; c++) {
            if (c >= '0' && c <= '9' || c >= 'a' && c <= 'z') continue;
            if (c == ';') Edges.of("lie 1 ; ");
            else if ("<=+-*".indexOf(c) >= 0) Edges.of("lie 1 " + c + " 2;");
            else Edges.fault("lie 1 ", c + " 2;", 1);
        }
    }

    private static void promise3_eachSignAheadOfAPart() {
        Edges.sentence(3, "the signs ( ) < = + - * ; All else");
        for (char c = 33; c < 127; c++) {
            if (c >= '0' && c <= '9' || c >= 'a' && c <= 'z') continue;
            if (c == '(') Edges.of("lie (1);");
            else Edges.fault("lie ", c + " 1);", 1);
        }
    }

    private static void promise3_noSignBeginsASentence() {
        Edges.sentence(3, "1 it is none, or can't stand there");
        for (char c = 33; c < 127; c++) {
            Edges.fault("", c + ";", 1);
            Edges.fault("field 3; ", c + ";", 1);
        }
    }

    public static void main(String[] args) {
        Edges.run(TapeEdgesTest.class);
    }
}
