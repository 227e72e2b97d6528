import java.util.Arrays;

/** A flock counted by gaps: who lies where of an evening, and who is missing from the fog. */
public final class FlockGaps {
    public static final int NONE = -1;

    private static final int MOST_SIGNS = 1000;
    private static final int MOST_BEASTS = 12;
    private static final int MOST_PLACES = 16;
    private static final int USUAL_PLACES = 12;
    private static final int MOST_MEADOWS = 6;
    private static final int MOST_TOLD = 24;
    private static final int MOST_UNDONE = 12;
    private static final int MOST_MARKS = 4;
    private static final int MOST_EVENINGS = 50;
    private static final int MOST_LOOKED_AT = 16;
    private static final int MOST_WITHIN = 5;
    private static final int SETTLING_EVENINGS = 3;
    private static final int MOST_STRAY = 9999;

    /** The KINDS that an evening or a liking asks about; they are numbered as their words follow WORD_EWE. */
    private static final int LEADER = 1;
    private static final int TWIN = 2;
    private static final int BLIND = 3;
    private static final int LAME = 4;
    private static final int FOREIGN = 5;

    /** The words of the language, eight signs each, in the order of the numbers below. */
    private static final String WORDS = "field   beast   tone    like    lie     meadow  grass   far     stray   ewe     leader  twin    blind   lame    foreign not     and     or      liking  place   room    old     edge    friends ";
    private static final int WORD_SIGNS = 8;
    private static final int WORD_FIELD = 0;
    private static final int WORD_BEAST = 1;
    private static final int WORD_TONE = 2;
    private static final int WORD_LIKE = 3;
    private static final int WORD_LIE = 4;
    private static final int WORD_MEADOW = 5;
    private static final int WORD_GRASS = 6;
    private static final int WORD_FAR = 7;
    private static final int WORD_STRAY = 8;
    private static final int WORD_EWE = 9;
    private static final int WORD_BLIND = 12;
    private static final int WORD_LAME = 13;
    private static final int WORD_FOREIGN = 14;
    private static final int WORD_NOT = 15;
    private static final int WORD_AND = 16;
    private static final int WORD_OR = 17;
    private static final int WORD_LIKING = 18;
    private static final int WORD_PLACE = 19;
    private static final int WORD_ROOM = 20;
    private static final int WORD_OLD = 21;
    private static final int WORD_EDGE = 22;
    private static final int WORD_FRIENDS = 23;
    private static final int WORD_OTHER = 24;
    /** Tokens that are no words; a sign's token is the sign itself, from 40 on. */
    private static final int NUMBER = 25;
    private static final int END = 26;
    private static final int NO_TOKEN = 27;

    private static final int FAULT_TOKEN = 1;
    private static final int FAULT_STRANGER = 2;
    private static final int FAULT_TWICE = 3;
    private static final int FAULT_NUMBER = 4;
    private static final int FAULT_TOO_MANY = 5;

    private static final int TOLD_EMPTY = 0;
    private static final int TOLD_TAKEN = 1;
    private static final int TOLD_HEARD = 2;
    private static final int TOLD_UNEASY = 3;
    private static final int TOLD_EASY = 4;

    private final Tape tape = new Tape();
    private Flock herd = new Flock();
    private Flock draft = new Flock();
    private final Reader reader = new Reader(tape, draft);
    private final Lying lying = new Lying();
    private final Lying trial = new Lying();
    private final Fog fog = new Fog();
    private final Past past = new Past();
    private final Dusk dusk = new Dusk();
    private final Guess guess = new Guess();
    private final Looker looker = new Looker();
    private final Straying straying = new Straying();
    private final Lying[] markedLying = new Lying[MOST_MARKS];
    private final Fog[] markedFog = new Fog[MOST_MARKS];
    private int laidMarks;

    public FlockGaps() {
        for (int i = 0; i < MOST_MARKS; i++) {
            markedLying[i] = new Lying();
            markedFog[i] = new Fog();
        }
    }

    public int feed(long a, long b, long c) {
        tape.addBytes(a);
        tape.addBytes(b);
        tape.addBytes(c);
        return tape.length;
    }

    public int flock() {
        int fault = reader.read(draft);
        tape.length = 0;
        if (fault != 0) {
            return fault;
        }
        Flock told = draft;
        draft = herd;
        herd = told;
        lying.reset();
        fog.many = 0;
        past.many = 0;
        laidMarks = 0;
        return 0;
    }

    public int beast(int beast, int what) {
        if (!isBeast(beast)) {
            return NONE;
        }
        switch (what) {
            case 0: return herd.kind[beast];
            case 1: return herd.tone[beast];
            case 2: return lying.now[beast];
            case 3: return lying.isAway(beast) ? 1 : 0;
            case 4: return lying.lain[beast];
            default: return NONE;
        }
    }

    public int liking(int a, int b) {
        return isPair(a, b) ? lying.likes(herd, a, b) : NONE;
    }

    public int place(int place) {
        if (!isPlace(place)) {
            return NONE;
        }
        for (int beast = 0; beast < herd.beasts; beast++) {
            if (lying.now[beast] == place) {
                return beast;
            }
        }
        return NONE;
    }

    public boolean away(int beast, boolean back) {
        if (!isBeast(beast) || lying.isAway(beast) != back) {
            return false;
        }
        past.keep(lying);
        lying.awayBits = lying.awayBits ^ (1 << beast);
        lying.now[beast] = NONE;
        return true;
    }

    public int evening(int many) {
        if (many < 1 || many > MOST_EVENINGS) {
            return NONE;
        }
        for (int i = 0; i < many; i++) {
            past.keep(lying);
            dusk.fall(herd, lying);
        }
        fog.many = 0;
        return lying.evenings;
    }

    public int settled() {
        trial.copy(lying);
        for (int n = 0; n <= MOST_EVENINGS; n++) {
            if (dusk.fall(herd, trial)) {
                return n;
            }
        }
        return NONE;
    }

    public int beside(int a, int b) {
        return isPair(a, b) ? lying.beside[a * MOST_BEASTS + b] : NONE;
    }

    public int friends(int evenings) {
        if (evenings < 1 || evenings > 9999) {
            return NONE;
        }
        int pairs = 0;
        for (int a = 0; a < herd.beasts; a++) {
            for (int b = 0; b < a; b++) {
                if (lying.beside[a * MOST_BEASTS + b] >= evenings) {
                    pairs++;
                }
            }
        }
        return pairs;
    }

    public int seen(int place, boolean empty) {
        if (!isPlace(place)) {
            return NONE;
        }
        return fog.tell(empty ? TOLD_EMPTY : TOLD_TAKEN, place, 0);
    }

    public int heard(int tone, int many) {
        if (tone < 1 || tone > 9 || many < 0 || many > MOST_BEASTS) {
            return NONE;
        }
        return fog.tell(TOLD_HEARD, tone, many);
    }

    public int uneasy(int beast, int least, boolean uneasy) {
        if (!isBeast(beast) || lying.lay[beast] == NONE || least < 1 || least > 99) {
            return NONE;
        }
        return fog.tell(uneasy ? TOLD_UNEASY : TOLD_EASY, beast, least);
    }

    public boolean clear() {
        fog.many = 0;
        return true;
    }

    public int fits() {
        guess.ponder(herd, lying, fog, NONE);
        return guess.many;
    }

    public int fit(int i) {
        if (i < 0) {
            return NONE;
        }
        guess.ponder(herd, lying, fog, i);
        return guess.wanted;
    }

    public int sure(boolean here) {
        guess.ponder(herd, lying, fog, NONE);
        if (guess.many == 0) {
            return NONE;
        }
        return here ? guess.lay & ~guess.inSome : guess.inAll;
    }

    public int looks(int what) {
        if (what != 0 && what != 1) {
            return NONE;
        }
        guess.ponder(herd, lying, fog, NONE);
        if (guess.many < 1 || guess.many > MOST_LOOKED_AT) {
            return NONE;
        }
        looker.prepare(herd, lying, guess);
        return what == 0 ? looker.howMany() : looker.firstPlace();
    }

    public int odds(int beast, int meadow, int what) {
        if (meadow < 0 || meadow >= herd.meadows || what < 0 || what > 1 || !weighed(beast)) {
            return NONE;
        }
        int worth = straying.worth[meadow];
        return (int) lowest(what == 0 ? worth : straying.total, worth, straying.total);
    }

    public long search(int beast, int what) {
        if (what < 0 || what >= herd.meadows + 2 || !weighed(beast)) {
            return NONE;
        }
        straying.arrange(herd);
        if (what >= 2) {
            return straying.order[what - 2];
        }
        long minutes = straying.minutes(herd);
        return lowest(what == 0 ? minutes : straying.total, minutes, straying.total);
    }

    public int parted(int many, int with, int without, int what) {
        int everyone = (1 << herd.beasts) - 1;
        if (many < 0 || many > herd.beasts || what < 0 || what > 1) {
            return NONE;
        }
        if (((with | without) & ~everyone) != 0 || (with & without) != 0) {
            return NONE;
        }
        int best = NONE;
        int least = NONE;
        for (int bunch = with; bunch <= everyone; bunch++) {
            if ((bunch & with) == with && (bunch & without) == 0 && Integer.bitCount(bunch) == many) {
                int unrest = unrestOf(bunch);
                if (best == NONE || unrest < least) {
                    best = bunch;
                    least = unrest;
                }
            }
        }
        return what == 0 ? least : best;
    }

    public boolean undo() {
        if (!past.takeBack(lying)) {
            return false;
        }
        fog.many = 0;
        return true;
    }

    public boolean mark(int mark, boolean back) {
        if (mark < 0 || mark >= MOST_MARKS) {
            return false;
        }
        Lying keptLying = markedLying[mark];
        Fog keptFog = markedFog[mark];
        if (keptLying == null || keptFog == null) {
            return false;
        }
        if (!back) {
            keptLying.copy(lying);
            keptFog.copy(fog);
            laidMarks = laidMarks | (1 << mark);
            return true;
        }
        if ((laidMarks & (1 << mark)) == 0) {
            return false;
        }
        lying.copy(keptLying);
        fog.copy(keptFog);
        past.many = 0;
        return true;
    }

    public int count(int what) {
        switch (what) {
            case 0: return herd.beasts;
            case 1: return herd.places;
            case 2: return herd.pairs;
            case 3: return herd.meadows;
            case 4: return lying.evenings;
            case 5: return Integer.bitCount(lying.awayBits);
            case 6: return fog.many;
            case 7: return past.many;
            case 8: return tape.length;
            default: return NONE;
        }
    }

    private boolean isBeast(int beast) {
        return beast >= 0 && beast < herd.beasts;
    }

    private boolean isPair(int a, int b) {
        return isBeast(a) && isBeast(b) && a != b;
    }

    private boolean isPlace(int place) {
        return place >= 0 && place < herd.places;
    }

    /** Weighs the meadows for a beast; false where there are no odds. */
    private boolean weighed(int beast) {
        if (!isBeast(beast) || !lying.isAway(beast)) {
            return false;
        }
        straying.weigh(herd, lying, beast);
        return straying.total > 0;
    }

    private int unrestOf(int bunch) {
        int unrest = 0;
        for (int a = 0; a < herd.beasts; a++) {
            for (int b = 0; b < a; b++) {
                if (((bunch >> a) & 1) != ((bunch >> b) & 1)) {
                    unrest += lying.likes(herd, a, b);
                }
            }
        }
        return unrest;
    }

    /** One side of the fraction a / b by what both can be divided by. */
    private static long lowest(long side, long a, long b) {
        long x = a;
        long y = b;
        for (int i = 0; i < 100 && y != 0; i++) {
            long rest = x % y;
            x = y;
            y = rest;
        }
        return x == 0 ? side : side / x;
    }

    /** The signs that were fed, and the tokens read from them one by one. */
    private static final class Tape {
        final char[] signs = new char[MOST_SIGNS];
        int length;
        /** The token that is looked at: what it is, where it begins, its value or its letters. */
        int token;
        int start;
        int value;
        long name;
        /** Behind that token. */
        int behind;

        void addBytes(long bytes) {
            for (int shift = 56; shift >= 0; shift -= 8) {
                int sign = (int) (bytes >>> shift) & 255;
                if ((sign == 10 || sign >= 32 && sign <= 126) && length < MOST_SIGNS) {
                    signs[length] = (char) sign;
                    length++;
                }
            }
        }

        void rewind() {
            behind = 0;
            next();
        }

        void next() {
            while (behind < length && (signs[behind] == 10 || signs[behind] == ' ')) {
                behind++;
            }
            start = behind;
            if (behind >= length) {
                token = END;
            } else if (isLetter(signs[behind])) {
                takeWord();
            } else if (isDigit(signs[behind])) {
                takeNumber();
            } else {
                token = isSign(signs[behind]) ? signs[behind] : NO_TOKEN;
                behind++;
            }
        }

        /** Words have eight letters at most, so that base 27 tells them apart in a long. */
        private void takeWord() {
            name = 0;
            while (behind < length && signs[behind] >= 'a' && signs[behind] <= 'z') {
                name = name * 27 + (signs[behind] - 'a' + 1);
                behind++;
            }
            token = behind - start > WORD_SIGNS ? NO_TOKEN : WORD_OTHER;
            long letters = 0;
            for (int i = 0; i < WORDS.length() && token == WORD_OTHER; i++) {
                char sign = WORDS.charAt(i);
                letters = sign == ' ' ? letters : letters * 27 + (sign - 'a' + 1);
                if (i % WORD_SIGNS == WORD_SIGNS - 1) {
                    token = letters == name ? i / WORD_SIGNS : WORD_OTHER;
                    letters = 0;
                }
            }
        }

        private void takeNumber() {
            value = 0;
            while (behind < length && signs[behind] >= '0' && signs[behind] <= '9') {
                value = value * 10 + (signs[behind] - '0');
                behind++;
            }
            token = behind - start > 4 ? NO_TOKEN : NUMBER;
        }

        private static boolean isLetter(char sign) {
            return sign >= 'a' && sign <= 'z';
        }

        private static boolean isDigit(char sign) {
            return sign >= '0' && sign <= '9';
        }

        private static boolean isSign(char sign) {
            return "()<=+-*;".indexOf(sign) >= 0;
        }
    }

    /** An expression, each operator behind what it joins, so that it is worked out without recursion. */
    private static final class Law {
        /** Five levels of brackets, four operators waiting in each: 21 at most. */
        private static final int STACK = 32;

        /** A number as it is; any other token as -1 - token. */
        final int[] code = new int[MOST_SIGNS];
        final int[] stack = new int[STACK];
        int length;
        boolean isTold;

        void begin() {
            length = 0;
            isTold = true;
        }

        void addNumber(int number) {
            if (length < MOST_SIGNS) {
                code[length] = number;
                length++;
            }
        }

        void addToken(int token) {
            addNumber(-1 - token);
        }

        /** What holds as long as nothing is told. */
        void beFact(int word) {
            length = 0;
            isTold = false;
            addToken(word);
        }

        int worth(int[] facts) {
            int top = 0;
            for (int i = 0; i < length; i++) {
                int token = -1 - code[i];
                if (token < 0 || isFact(token)) {
                    if (top < STACK) {
                        stack[top] = token < 0 ? code[i] : facts[token];
                        top++;
                    }
                } else if (token == WORD_NOT) {
                    if (top > 0) {
                        stack[top - 1] = stack[top - 1] == 0 ? 1 : 0;
                    }
                } else if (top > 1) {
                    top--;
                    stack[top - 1] = joined(token, stack[top - 1], stack[top]);
                }
            }
            return stack[0];
        }

        private static boolean isFact(int token) {
            return token < WORD_OTHER && token != WORD_NOT && token != WORD_AND && token != WORD_OR;
        }

        private static int joined(int token, int a, int b) {
            switch (token) {
                case WORD_AND: return a != 0 && b != 0 ? 1 : 0;
                case WORD_OR: return a != 0 || b != 0 ? 1 : 0;
                case '<': return a < b ? 1 : 0;
                case '=': return a == b ? 1 : 0;
                case '+': return a + b;
                case '-': return a - b;
                default: return a * b;
            }
        }
    }

    /** What was told of a flock; it does not change by evenings. */
    private static final class Flock {
        int places = USUAL_PLACES;
        int beasts;
        int pairs;
        int meadows;
        final int[] kind = new int[MOST_BEASTS];
        final int[] tone = new int[MOST_BEASTS];
        final int[] like = new int[MOST_BEASTS * MOST_BEASTS];
        final int[] grass = new int[MOST_MEADOWS];
        final int[] far = new int[MOST_MEADOWS];
        final Law lie = new Law();
        final Law stray = new Law();

        Flock() {
            lie.beFact(WORD_LIKING);
            stray.beFact(WORD_GRASS);
        }

        void reset() {
            places = USUAL_PLACES;
            beasts = 0;
            pairs = 0;
            meadows = 0;
            Arrays.fill(like, 0);
            lie.beFact(WORD_LIKING);
            stray.beFact(WORD_GRASS);
        }
    }

    /** Reads a flock from the tape; each part answers whether it went well, and the first fault stays. */
    private static final class Reader {
        private static final int LEVEL_TEST = 1;
        private static final int LEVEL_PART = 4;

        final Tape tape;
        final long[] beastNames = new long[MOST_BEASTS];
        final long[] meadowNames = new long[MOST_MEADOWS];
        Flock told;
        Law law;
        int fault;
        boolean fieldTold;

        Reader(Tape tape, Flock first) {
            this.tape = tape;
            told = first;
            law = first.lie;
        }

        int read(Flock into) {
            into.reset();
            told = into;
            fault = 0;
            fieldTold = false;
            tape.rewind();
            for (int i = 0; i < MOST_SIGNS && tape.token != END; i++) {
                boolean went;
                switch (tape.token) {
                    case WORD_FIELD: went = readField(); break;
                    case WORD_BEAST: went = readBeast(); break;
                    case WORD_LIKE: went = readLike(); break;
                    case WORD_LIE: went = readLaw(told.lie); break;
                    case WORD_MEADOW: went = readMeadow(); break;
                    case WORD_STRAY: went = readLaw(told.stray); break;
                    default: went = wrong(FAULT_TOKEN); break;
                }
                if (!went || !passed(';')) {
                    return fault;
                }
            }
            return 0;
        }

        private boolean wrong(int kind) {
            fault = kind + 16 * tape.start;
            return false;
        }

        private boolean passed(int token) {
            if (tape.token != token) {
                return wrong(FAULT_TOKEN);
            }
            tape.next();
            return true;
        }

        /** Whether the token is a number of that range; it stays to be taken. */
        private boolean isNumber(int least, int most) {
            if (tape.token != NUMBER) {
                return wrong(FAULT_TOKEN);
            }
            return tape.value >= least && tape.value <= most || wrong(FAULT_NUMBER);
        }

        private boolean isName() {
            return tape.token >= WORD_LIKING && tape.token <= WORD_OTHER || wrong(FAULT_TOKEN);
        }

        private boolean isNewName() {
            if (!isName()) {
                return false;
            }
            boolean known = beastNamed(tape.name) != NONE;
            for (int i = 0; i < told.meadows; i++) {
                known = known || meadowNames[i] == tape.name;
            }
            return !known || wrong(FAULT_TWICE);
        }

        private int beastNamed(long name) {
            for (int i = 0; i < told.beasts; i++) {
                if (beastNames[i] == name) {
                    return i;
                }
            }
            return NONE;
        }

        private boolean readField() {
            if (fieldTold) {
                return wrong(FAULT_TWICE);
            }
            tape.next();
            if (!isNumber(1, MOST_PLACES)) {
                return false;
            }
            if (told.beasts > tape.value) {
                return wrong(FAULT_TOO_MANY);
            }
            fieldTold = true;
            told.places = tape.value;
            tape.next();
            return true;
        }

        private boolean readBeast() {
            int number = told.beasts;
            if (number >= MOST_BEASTS || number >= told.places) {
                return wrong(FAULT_TOO_MANY);
            }
            tape.next();
            if (!isNewName()) {
                return false;
            }
            beastNames[number] = tape.name;
            tape.next();
            if (tape.token < WORD_EWE || tape.token > WORD_FOREIGN) {
                return wrong(FAULT_TOKEN);
            }
            told.kind[number] = tape.token - WORD_EWE;
            tape.next();
            if (!passed(WORD_TONE) || !isNumber(0, 9)) {
                return false;
            }
            told.tone[number] = tape.value;
            told.beasts = number + 1;
            tape.next();
            return true;
        }

        private boolean readLike() {
            tape.next();
            int a = readTold();
            if (a == NONE) {
                return false;
            }
            tape.next();
            int b = readTold();
            if (b == NONE) {
                return false;
            }
            if (a == b || told.like[a * MOST_BEASTS + b] != 0) {
                return wrong(FAULT_TWICE);
            }
            tape.next();
            if (!isNumber(1, 99)) {
                return false;
            }
            told.like[a * MOST_BEASTS + b] = tape.value;
            told.like[b * MOST_BEASTS + a] = tape.value;
            told.pairs++;
            tape.next();
            return true;
        }

        /** The beast whose name is looked at; the name stays, for its place is that of a pair told twice. */
        private int readTold() {
            if (!isName()) {
                return NONE;
            }
            int beast = beastNamed(tape.name);
            if (beast == NONE) {
                wrong(FAULT_STRANGER);
            }
            return beast;
        }

        private boolean readMeadow() {
            int number = told.meadows;
            if (number >= MOST_MEADOWS) {
                return wrong(FAULT_TOO_MANY);
            }
            tape.next();
            if (!isNewName()) {
                return false;
            }
            meadowNames[number] = tape.name;
            tape.next();
            if (!passed(WORD_GRASS) || !isNumber(0, 99)) {
                return false;
            }
            told.grass[number] = tape.value;
            tape.next();
            if (!passed(WORD_FAR) || !isNumber(1, 99)) {
                return false;
            }
            told.far[number] = tape.value;
            told.meadows = number + 1;
            tape.next();
            return true;
        }

        private boolean readLaw(Law which) {
            if (which.isTold) {
                return wrong(FAULT_TWICE);
            }
            law = which;
            law.begin();
            tape.next();
            return readJoined(0, 0);
        }

        /** Level 0 is joined by and, or; 1 by < or =, once; 2 by + and -; 3 by *; 4 is a PART. */
        private boolean readJoined(int level, int within) {
            if (level >= LEVEL_PART) {
                return readPart(within);
            }
            if (!readJoined(level + 1, within)) {
                return false;
            }
            int most = level == LEVEL_TEST ? 1 : MOST_SIGNS;
            for (int i = 0; i < most && levelOf(tape.token) == level; i++) {
                int sign = tape.token;
                tape.next();
                if (!readJoined(level + 1, within)) {
                    return false;
                }
                law.addToken(sign);
            }
            return true;
        }

        private static int levelOf(int token) {
            switch (token) {
                case WORD_AND: case WORD_OR: return 0;
                case '<': case '=': return LEVEL_TEST;
                case '+': case '-': return 2;
                case '*': return 3;
                default: return NONE;
            }
        }

        private boolean readPart(int within) {
            int token = tape.token;
            boolean fact = isFactHere(token);
            if (!fact && token != NUMBER && token != WORD_NOT && token != '(') {
                return wrong(FAULT_TOKEN);
            }
            if (within >= MOST_WITHIN) {
                return wrong(FAULT_TOO_MANY);
            }
            if (fact) {
                law.addToken(token);
            } else if (token == NUMBER) {
                law.addNumber(tape.value);
            }
            tape.next();
            if (token == '(') {
                return readJoined(0, within + 1) && passed(')');
            }
            if (token == WORD_NOT) {
                if (!readPart(within + 1)) {
                    return false;
                }
                law.addToken(WORD_NOT);
            }
            return true;
        }

        private boolean isFactHere(int token) {
            switch (token) {
                case WORD_TONE: case WORD_LAME: case WORD_BLIND:
                    return true;
                case WORD_LIKING: case WORD_PLACE: case WORD_ROOM: case WORD_OLD: case WORD_EDGE:
                    return law == told.lie;
                case WORD_GRASS: case WORD_FAR: case WORD_FRIENDS:
                    return law == told.stray;
                default:
                    return false;
            }
        }
    }

    /** Who is away, where all lie, and what the evenings brought: what is undone and marked. */
    private static final class Lying {
        int awayBits;
        int evenings;
        /** Where each lies now; where it lay on the last evening, whatever was done since. */
        final int[] now = new int[MOST_BEASTS];
        final int[] lay = new int[MOST_BEASTS];
        final int[] lain = new int[MOST_BEASTS];
        final int[] beside = new int[MOST_BEASTS * MOST_BEASTS];

        Lying() {
            Arrays.fill(now, NONE);
            Arrays.fill(lay, NONE);
        }

        void reset() {
            awayBits = 0;
            evenings = 0;
            Arrays.fill(now, NONE);
            Arrays.fill(lay, NONE);
            Arrays.fill(lain, 0);
            Arrays.fill(beside, 0);
        }

        void copy(Lying from) {
            awayBits = from.awayBits;
            evenings = from.evenings;
            System.arraycopy(from.now, 0, now, 0, MOST_BEASTS);
            System.arraycopy(from.lay, 0, lay, 0, MOST_BEASTS);
            System.arraycopy(from.lain, 0, lain, 0, MOST_BEASTS);
            System.arraycopy(from.beside, 0, beside, 0, MOST_BEASTS * MOST_BEASTS);
        }

        boolean isAway(int beast) {
            return ((awayBits >> beast) & 1) != 0;
        }

        int likes(Flock herd, int a, int b) {
            int like = herd.like[a * MOST_BEASTS + b];
            return isNew(herd, a) || isNew(herd, b) ? like / 2 : like;
        }

        private boolean isNew(Flock herd, int beast) {
            return herd.kind[beast] == FOREIGN && lain[beast] < SETTLING_EVENINGS;
        }
    }

    /** An evening: all get up and lie down one by one. */
    private static final class Dusk {
        final int[] at = new int[MOST_PLACES];
        final int[] before = new int[MOST_BEASTS];
        final int[] facts = new int[WORD_OTHER];

        /** Answers whether all lie as they lay ahead of it. */
        boolean fall(Flock herd, Lying lying) {
            System.arraycopy(lying.now, 0, before, 0, MOST_BEASTS);
            Arrays.fill(at, NONE);
            Arrays.fill(lying.now, NONE);
            for (int turn = 0; turn < 3; turn++) {
                for (int beast = 0; beast < herd.beasts; beast++) {
                    if (turnOf(herd.kind[beast]) == turn && !lying.isAway(beast)) {
                        lieDown(herd, lying, beast);
                    }
                }
            }
            return closed(lying);
        }

        private static int turnOf(int kind) {
            return kind == LEADER ? 0 : kind == LAME ? 2 : 1;
        }

        private void lieDown(Flock herd, Lying lying, int beast) {
            int flank = flankOf(herd, lying, beast);
            boolean blind = herd.kind[beast] == BLIND;
            int best = NONE;
            int most = 0;
            for (int place = 0; place < herd.places; place++) {
                if (at[place] != NONE || flank != NONE && Math.abs(place - flank) != 1) {
                    continue;
                }
                int worth = worthOf(herd, lying, beast, place);
                if (best == NONE || worth > most || worth == most && blind) {
                    best = place;
                    most = worth;
                }
            }
            if (best != NONE) {
                at[best] = beast;
                lying.now[beast] = best;
            }
        }

        /** The place that a twin must lie next to; NONE if it, or another beast, may lie anywhere. */
        private int flankOf(Flock herd, Lying lying, int beast) {
            if (herd.kind[beast] != TWIN || beast < 1) {
                return NONE;
            }
            int flank = lying.now[beast - 1];
            return flank != NONE && freeNextTo(herd, flank) > 0 ? flank : NONE;
        }

        private int freeNextTo(Flock herd, int place) {
            int free = place > 0 && at[place - 1] == NONE ? 1 : 0;
            return place + 1 < herd.places && at[place + 1] == NONE ? free + 1 : free;
        }

        private int worthOf(Flock herd, Lying lying, int beast, int place) {
            facts[WORD_TONE] = herd.tone[beast];
            facts[WORD_LAME] = herd.kind[beast] == LAME ? 1 : 0;
            facts[WORD_BLIND] = herd.kind[beast] == BLIND ? 1 : 0;
            facts[WORD_PLACE] = place;
            facts[WORD_ROOM] = freeNextTo(herd, place);
            facts[WORD_OLD] = lying.lay[beast] == place ? 1 : 0;
            facts[WORD_EDGE] = place == 0 || place == herd.places - 1 ? 1 : 0;
            facts[WORD_LIKING] = likesAt(herd, lying, beast, place - 1) + likesAt(herd, lying, beast, place + 1);
            return herd.lie.worth(facts);
        }

        private int likesAt(Flock herd, Lying lying, int beast, int place) {
            if (place < 0 || place >= herd.places || at[place] == NONE) {
                return 0;
            }
            return lying.likes(herd, beast, at[place]);
        }

        private boolean closed(Lying lying) {
            boolean same = true;
            for (int beast = 0; beast < MOST_BEASTS; beast++) {
                same = same && lying.now[beast] == before[beast];
                lying.lay[beast] = lying.now[beast];
                if (lying.now[beast] != NONE) {
                    lying.lain[beast]++;
                }
            }
            for (int place = 1; place < MOST_PLACES; place++) {
                int a = at[place - 1];
                int b = at[place];
                if (a != NONE && b != NONE) {
                    lying.beside[a * MOST_BEASTS + b]++;
                    lying.beside[b * MOST_BEASTS + a]++;
                }
            }
            lying.evenings++;
            return same;
        }
    }

    /** What is told of the fog. */
    private static final class Fog {
        int many;
        final int[] kind = new int[MOST_TOLD];
        final int[] whom = new int[MOST_TOLD];
        final int[] number = new int[MOST_TOLD];

        int tell(int what, int ofWhom, int howMuch) {
            if (many >= MOST_TOLD) {
                return NONE;
            }
            kind[many] = what;
            whom[many] = ofWhom;
            number[many] = howMuch;
            many++;
            return many;
        }

        void copy(Fog from) {
            many = from.many;
            System.arraycopy(from.kind, 0, kind, 0, MOST_TOLD);
            System.arraycopy(from.whom, 0, whom, 0, MOST_TOLD);
            System.arraycopy(from.number, 0, number, 0, MOST_TOLD);
        }
    }

    /** All sets of missing ones that fit what is told. */
    private static final class Guess {
        /** Those that lay on the last evening. */
        int lay;
        int many;
        int inAll;
        int inSome;
        int wanted;
        final int[] firstSets = new int[MOST_LOOKED_AT];
        /** Of each thing told, the beasts it is about, and those whose going makes one uneasy. */
        private final int[] about = new int[MOST_TOLD];
        private final int[] near = new int[MOST_TOLD];

        void ponder(Flock herd, Lying lying, Fog fog, int index) {
            lay = 0;
            for (int beast = 0; beast < herd.beasts; beast++) {
                if (lying.lay[beast] != NONE) {
                    lay = lay | (1 << beast);
                }
            }
            for (int i = 0; i < fog.many; i++) {
                prepare(herd, lying, fog, i);
            }
            many = 0;
            inAll = lay;
            inSome = 0;
            wanted = NONE;
            int set = 0;
            for (int i = 0; i < 1 << Integer.bitCount(lay); i++) {
                if (holds(fog, set)) {
                    take(set, index);
                }
                // the next greater set within lay: the borrow runs over the bits that are not in it
                set = (set - lay) & lay;
            }
        }

        private void take(int set, int index) {
            if (many < MOST_LOOKED_AT) {
                firstSets[many] = set;
            }
            if (many == index) {
                wanted = set;
            }
            inAll = inAll & set;
            inSome = inSome | set;
            many++;
        }

        private void prepare(Flock herd, Lying lying, Fog fog, int i) {
            int whom = fog.whom[i];
            about[i] = 0;
            near[i] = 0;
            for (int beast = 0; beast < herd.beasts; beast++) {
                if (lying.lay[beast] == NONE) {
                    continue;
                }
                switch (fog.kind[i]) {
                    case TOLD_EMPTY: case TOLD_TAKEN:
                        about[i] |= lying.lay[beast] == whom ? 1 << beast : 0;
                        break;
                    case TOLD_HEARD:
                        about[i] |= herd.tone[beast] == whom ? 1 << beast : 0;
                        break;
                    default:
                        about[i] |= beast == whom ? 1 << beast : 0;
                        near[i] |= isMissed(herd, lying, whom, beast, fog.number[i]) ? 1 << beast : 0;
                        break;
                }
            }
        }

        private static boolean isMissed(Flock herd, Lying lying, int by, int beast, int least) {
            return Math.abs(lying.lay[by] - lying.lay[beast]) == 1 && lying.likes(herd, by, beast) >= least;
        }

        private boolean holds(Fog fog, int set) {
            for (int i = 0; i < fog.many; i++) {
                if (!holdsOne(fog, i, set)) {
                    return false;
                }
            }
            return true;
        }

        private boolean holdsOne(Fog fog, int i, int set) {
            int there = about[i] & ~set;
            switch (fog.kind[i]) {
                case TOLD_EMPTY: return there == 0;
                case TOLD_TAKEN: return there != 0;
                case TOLD_HEARD: return Integer.bitCount(there) == fog.number[i];
                case TOLD_UNEASY: return there != 0 && (near[i] & set) != 0;
                default: return there != 0 && (near[i] & set) == 0;
            }
        }
    }

    /** How few looks tell which of at most 16 sets it is; the sets are counted as bits here. */
    private static final class Looker {
        private int all;
        /** For each place, in which of the sets the beast that lay there is gone. */
        private final int[] gone = new int[MOST_PLACES];
        /** What was found for each choice of sets, four bits each, 0 where nothing was: small in elements. */
        private final long[] found = new long[1 << (MOST_LOOKED_AT - 4)];

        void prepare(Flock herd, Lying lying, Guess guess) {
            all = (1 << guess.many) - 1;
            Arrays.fill(gone, 0);
            for (int i = 0; i < found.length && i <= all >> 4; i++) {
                found[i] = 0;
            }
            for (int beast = 0; beast < herd.beasts; beast++) {
                int place = lying.lay[beast];
                if (place < 0 || place >= MOST_PLACES) {
                    continue;
                }
                for (int i = 0; i < guess.many && i < MOST_LOOKED_AT; i++) {
                    gone[place] |= ((guess.firstSets[i] >> beast) & 1) << i;
                }
            }
        }

        int howMany() {
            return fewest(all, 0);
        }

        int firstPlace() {
            int best = fewest(all, 0);
            for (int place = 0; place < MOST_PLACES && best > 0; place++) {
                if (tells(place, all) && afterLook(place, all, 0) == best) {
                    return place;
                }
            }
            return NONE;
        }

        /** No place is worth a second look, so no more looks stand open than there are places. */
        private int fewest(int among, int open) {
            if (Integer.bitCount(among) < 2 || open >= MOST_PLACES) {
                return 0;
            }
            int shift = (among & 15) * 4;
            int known = (int) (found[among >> 4] >>> shift) & 15;
            if (known != 0) {
                return known;
            }
            int best = MOST_PLACES;
            for (int place = 0; place < MOST_PLACES; place++) {
                if (tells(place, among)) {
                    best = Math.min(best, afterLook(place, among, open));
                }
            }
            found[among >> 4] |= (long) (best & 15) << shift;
            return best;
        }

        private boolean tells(int place, int among) {
            return (among & gone[place]) != 0 && (among & ~gone[place]) != 0;
        }

        private int afterLook(int place, int among, int open) {
            int ifGone = fewest(among & gone[place], open + 1);
            int ifThere = fewest(among & ~gone[place], open + 1);
            return 1 + Math.max(ifGone, ifThere);
        }
    }

    /** What can be undone, the oldest forgotten first. */
    private static final class Past {
        final Lying[] kept = new Lying[MOST_UNDONE];
        int many;
        int newest;

        Past() {
            for (int i = 0; i < MOST_UNDONE; i++) {
                kept[i] = new Lying();
            }
        }

        void keep(Lying lying) {
            newest = newest + 1 < MOST_UNDONE ? newest + 1 : 0;
            Lying slot = kept[newest];
            if (slot != null) {
                slot.copy(lying);
            }
            many = Math.min(many + 1, MOST_UNDONE);
        }

        boolean takeBack(Lying into) {
            Lying slot = kept[newest];
            if (many == 0 || slot == null) {
                return false;
            }
            into.copy(slot);
            newest = newest > 0 ? newest - 1 : MOST_UNDONE - 1;
            many--;
            return true;
        }
    }

    /** Where one that is away will be, and in which order the dog goes. */
    private static final class Straying {
        final int[] worth = new int[MOST_MEADOWS];
        final int[] order = new int[MOST_MEADOWS];
        final int[] facts = new int[WORD_OTHER];
        int total;

        void weigh(Flock herd, Lying lying, int beast) {
            facts[WORD_TONE] = herd.tone[beast];
            facts[WORD_LAME] = herd.kind[beast] == LAME ? 1 : 0;
            facts[WORD_BLIND] = herd.kind[beast] == BLIND ? 1 : 0;
            facts[WORD_FRIENDS] = friendsAway(herd, lying, beast);
            total = 0;
            for (int meadow = 0; meadow < herd.meadows; meadow++) {
                facts[WORD_GRASS] = herd.grass[meadow];
                facts[WORD_FAR] = herd.far[meadow];
                worth[meadow] = Math.max(0, Math.min(MOST_STRAY, herd.stray.worth(facts)));
                total += worth[meadow];
            }
        }

        private static int friendsAway(Flock herd, Lying lying, int beast) {
            int friends = 0;
            for (int other = 0; other < herd.beasts; other++) {
                if (other != beast && lying.isAway(other) && lying.likes(herd, beast, other) > 0) {
                    friends++;
                }
            }
            return friends;
        }

        /** The mean is least where minutes by odds rise along the way; equal ones stay in their order. */
        void arrange(Flock herd) {
            for (int meadow = 0; meadow < herd.meadows; meadow++) {
                int at = meadow;
                while (at > 0 && isBetter(herd, meadow, order[at - 1])) {
                    order[at] = order[at - 1];
                    at--;
                }
                order[at] = meadow;
            }
        }

        private boolean isBetter(Flock herd, int a, int b) {
            return herd.far[a] * worth[b] < herd.far[b] * worth[a];
        }

        /** The mean of minutes, times the total. */
        long minutes(Flock herd) {
            long sum = 0;
            int passed = 0;
            for (int i = 0; i < herd.meadows; i++) {
                passed += herd.far[order[i]];
                sum += (long) passed * worth[order[i]];
            }
            return sum;
        }
    }
}
