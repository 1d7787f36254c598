import java.util.NoSuchElementException;

/** Cards with notched edges and the packs they lie in; words in capitals are the terms of DOC.md. */
public final class NotchedCards {
    public static final int NONE = -1;

    private static final int NO_SUCH = -2;

    private static final int TAPE_LIMIT = 500;
    private static final int FEED_BYTES = 20;
    private static final int FIELD_LIMIT = 8;
    private static final int WORD_LIMIT = 12;
    private static final int CARD_LIMIT = 30;
    private static final int NOTE_LIMIT = 150;
    private static final int PACK_LIMIT = 6;
    private static final int STEP_LIMIT = 40;
    private static final int STEPS_DONE_LIMIT = 3000;
    private static final int WORK_OPEN_LIMIT = 5;
    private static final int KNOT_LIMIT = 40;
    private static final int QUESTION_OPEN_LIMIT = 8;
    private static final int NUMBER_LIMIT = 99;
    private static final int LETTER_LIMIT = 6;
    private static final int FEWEST_HOLES = 10;
    private static final int MOST_HOLES = 60;
    private static final int MOST_FIELD_HOLES = 24;
    private static final int MOST_CODE_HOLES = 4;
    private static final int MOST_TORN = 9;
    private static final int MOST_SORT_HOLES = 6;

    private static final int ONE_KIND = 0;
    private static final int SUMS_KIND = 1;
    private static final int PAIRS_KIND = 2;
    private static final int LAID_KIND = 3;

    /** FAULTS by their numbers. */
    private static final int STRANGE = 1;
    private static final int TOO_MUCH = 2;
    private static final int TOLD = 3;
    private static final int UNKNOWN = 4;
    private static final int TOO_FEW = 5;

    /** Tokens; a sign of the languages is its own token, above all of these. */
    private static final int END = 0;
    private static final int BAD = 1;
    private static final int NUMBER = 2;
    private static final int NAME = 3;
    private static final int LANGUAGE = 4;

    /** The words of the three languages, packed as names are: 5 bits a letter, the first highest of six. */
    private static final int HOLES = ('h' & 31) << 25 | ('o' & 31) << 20 | ('l' & 31) << 15
            | ('e' & 31) << 10 | ('s' & 31) << 5;
    private static final int FIELD = ('f' & 31) << 25 | ('i' & 31) << 20 | ('e' & 31) << 15
            | ('l' & 31) << 10 | ('d' & 31) << 5;
    private static final int WORD = ('w' & 31) << 25 | ('o' & 31) << 20 | ('r' & 31) << 15 | ('d' & 31) << 10;
    private static final int ONE = ('o' & 31) << 25 | ('n' & 31) << 20 | ('e' & 31) << 15;
    private static final int SUMS = ('s' & 31) << 25 | ('u' & 31) << 20 | ('m' & 31) << 15 | ('s' & 31) << 10;
    private static final int PAIRS = ('p' & 31) << 25 | ('a' & 31) << 20 | ('i' & 31) << 15
            | ('r' & 31) << 10 | ('s' & 31) << 5;
    private static final int LAID = ('l' & 31) << 25 | ('a' & 31) << 20 | ('i' & 31) << 15 | ('d' & 31) << 10;
    private static final int PASS = ('p' & 31) << 25 | ('a' & 31) << 20 | ('s' & 31) << 15 | ('s' & 31) << 10;
    private static final int TO = ('t' & 31) << 25 | ('o' & 31) << 20;
    private static final int BY = ('b' & 31) << 25 | ('y' & 31) << 20;
    private static final int JOIN = ('j' & 31) << 25 | ('o' & 31) << 20 | ('i' & 31) << 15 | ('n' & 31) << 10;
    private static final int AGAIN = ('a' & 31) << 25 | ('g' & 31) << 20 | ('a' & 31) << 15
            | ('i' & 31) << 10 | ('n' & 31) << 5;
    private static final int NOT = ('n' & 31) << 25 | ('o' & 31) << 20 | ('t' & 31) << 15;
    private static final int AND = ('a' & 31) << 25 | ('n' & 31) << 20 | ('d' & 31) << 15;
    private static final int OR = ('o' & 31) << 25 | ('r' & 31) << 20;
    private static final int[] LANGUAGE_WORDS = {
        HOLES, FIELD, WORD, ONE, SUMS, PAIRS, LAID,
        PASS, TO, BY, JOIN, AGAIN, NOT, AND, OR
    };

    /** CODES of the VALUES 0 to 9 as bits of a FIELD's HOLES, the first (that of seven) lowest. */
    private static final int[] SUMS_CODES = {0, 8, 4, 12, 2, 10, 6, 1, 9, 5};
    private static final int[] PAIRS_CODES = {3, 24, 20, 12, 18, 10, 6, 17, 9, 5};

    /** Kinds of NOTES. */
    private static final int SET_NOTE = 0;
    private static final int PUT_NOTE = 1;
    private static final int TORN_NOTE = 2;
    private static final int MENDED_NOTE = 3;
    private static final int CODE_NOTE = 4;
    private static final int STRIKE_NOTE = 5;

    private final Text text = new Text();
    private final Notes notes = new Notes();
    private final Known known = new Known();
    private final Packs packs = new Packs();
    private final Work latestWork = new Work();
    private final BestCode bestCode = new BestCode();
    private final Meanings meanings = new Meanings();
    private final Sorter sorter = new Sorter();
    // A text is read into the spare one, so that with a FAULT all stays.
    private Plan thePlan = new Plan();
    private Plan sparePlan = new Plan();
    private Question theQuestion = new Question();
    private Question spareQuestion = new Question();
    private int cards;

    public NotchedCards() {
        cards = 0;
    }

    public int feed(int a, int b, int c, int d, int e) {
        if (text.held > TAPE_LIMIT - FEED_BYTES) {
            return NONE;
        }
        text.append(a);
        text.append(b);
        text.append(c);
        text.append(d);
        text.append(e);
        return text.held;
    }

    public int plan(int n) {
        if (!text.begin(n)) {
            return NO_SUCH;
        }
        if (!sparePlan.read(text)) {
            return NONE;
        }
        Plan old = thePlan;
        thePlan = sparePlan;
        sparePlan = old;
        cards = 0;
        notes.size = 0;
        theQuestion.clear();
        packs.clear();
        return thePlan.lines;
    }

    public int work(int n) {
        if (!text.begin(n)) {
            return NO_SUCH;
        }
        knowAll();
        if (!latestWork.read(text, thePlan, known)) {
            return NONE;
        }
        packs.lay(known, thePlan.holes);
        return latestWork.isDoneBy(packs) ? 0 : 1;
    }

    public int question(int n) {
        if (!text.begin(n)) {
            return NO_SUCH;
        }
        if (!spareQuestion.read(text, thePlan)) {
            return NONE;
        }
        Question old = theQuestion;
        theQuestion = spareQuestion;
        spareQuestion = old;
        return theQuestion.knots;
    }

    public int fault(int what) {
        if (what == 0) {
            return text.fault;
        }
        return what == 1 ? text.faultPlace : NONE;
    }

    public int named(int what, int letters) {
        if (what == 0) {
            return thePlan.fieldNamed(letters);
        }
        return what == 1 ? thePlan.wordNamed(letters) : NONE;
    }

    public int look(int field, int what) throws IndexOutOfBoundsException, NoSuchElementException {
        if (!thePlan.isField(field)) {
            throw new IndexOutOfBoundsException("no such field");
        }
        switch (what) {
            case 0:
                return thePlan.kinds[field];
            case 1:
                return thePlan.firsts[field];
            case 2:
                return thePlan.lasts[field];
            case 3:
                return thePlan.choices[field];
            default:
                throw new NoSuchElementException("no such what");
        }
    }

    public long code(int field, int value) {
        return thePlan.codeOf(field, value);
    }

    public long coded(int n, int word) {
        if (!isBy(n) || !thePlan.isWord(word)) {
            return 0;
        }
        know(n);
        return known.codes[word];
    }

    public int card() {
        if (cards >= CARD_LIMIT) {
            return NONE;
        }
        packs.append(0, cards);
        cards++;
        return cards - 1;
    }

    public int set(int card, int field, int value) {
        if (!isCard(card) || !thePlan.isValue(field, value)) {
            return NONE;
        }
        return notes.add(SET_NOTE, card, field, value);
    }

    public int put(int card, int word) {
        if (!isCard(card) || !thePlan.isWord(word)) {
            return NONE;
        }
        return notes.add(PUT_NOTE, card, word, 0);
    }

    public int tear(int card, int hole, boolean mended) {
        if (!isCard(card) || hole < 0 || hole >= thePlan.holes) {
            return NONE;
        }
        return notes.add(mended ? MENDED_NOTE : TORN_NOTE, card, hole, 0);
    }

    public int recode(int word, int bits) {
        if (!thePlan.isWord(word) || !thePlan.isCodeOf(word, bits)) {
            return NONE;
        }
        return notes.add(CODE_NOTE, word, bits, 0);
    }

    public int strike(int note) {
        if (note < 0 || note >= notes.size) {
            return NONE;
        }
        return notes.add(STRIKE_NOTE, note, 0, 0);
    }

    public long notched(int n, int card) {
        if (!isBy(n) || !isCard(card)) {
            return NONE;
        }
        know(n);
        return known.cut[card];
    }

    public int truly(int n, int card, int field) {
        if (!isBy(n) || !isCard(card) || !thePlan.isField(field)) {
            return NO_SUCH;
        }
        know(n);
        if (thePlan.isLaid(field)) {
            return known.words[card] & thePlan.wordsOf(field);
        }
        return known.valueOf(card, field);
    }

    public boolean turn(int card) {
        if (!isCard(card)) {
            return false;
        }
        packs.over ^= 1 << card;
        return true;
    }

    public int turned() {
        return packs.over;
    }

    public int pack(int pack, int k) {
        if (!isPack(pack) || k < 0 || k >= packs.sizes[pack]) {
            return NONE;
        }
        return packs.rows[pack][k];
    }

    public int drops(int pack, long holes) {
        if (!isPack(pack)) {
            return NONE;
        }
        knowAll();
        packs.lay(known, thePlan.holes);
        return packs.dropping(pack, holes & span(0, thePlan.holes - 1));
    }

    public int gather() {
        packs.clear();
        for (int c = 0; c < cards; c++) {
            packs.append(0, c);
        }
        return cards;
    }

    public int ask(int n, int what) {
        if (!isBy(n) || what < 0 || what > 3 || theQuestion.knots == 0) {
            return NONE;
        }
        know(n);
        int byHoles = theQuestion.answer(thePlan, known, cards, false);
        int inTruth = theQuestion.answer(thePlan, known, cards, true);
        switch (what) {
            case 0:
                return byHoles;
            case 1:
                return inTruth;
            case 2:
                return byHoles & ~inTruth;
            default:
                return inTruth & ~byHoles;
        }
    }

    public long likely(int n, int word, int what) {
        if (!isBy(n) || !thePlan.isWord(word) || what < 0 || what > 1) {
            return NONE;
        }
        int field = thePlan.wordFields[word];
        int chosen = thePlan.choices[field];
        if (what == 1) {
            return ways(thePlan.width(field), chosen);
        }
        know(n);
        long sum = 0;
        for (int c = 0; c < cards; c++) {
            if (!known.hasWord(c, word)) {
                sum += ways(Long.bitCount(known.cut[c] & thePlan.spanOf(field)), chosen);
            }
        }
        return sum;
    }

    public int falsely(int n, int word) {
        if (!isBy(n) || !thePlan.isWord(word)) {
            return NONE;
        }
        know(n);
        int dropped = 0;
        for (int c = 0; c < cards; c++) {
            if (!known.hasWord(c, word) && known.isCutAt(c, known.codes[word])) {
                dropped++;
            }
        }
        return dropped;
    }

    public int best(int n, int word) {
        if (!isBy(n) || !thePlan.isWord(word)) {
            return NONE;
        }
        know(n);
        return bestCode.find(thePlan, known, cards, word);
    }

    public int means(int n, int card, int field, int t, int what) {
        if (!isBy(n) || !isCard(card) || !thePlan.isField(field)) {
            return NO_SUCH;
        }
        if (t < 0 || t > MOST_TORN || what < 0 || what > 2) {
            return NO_SUCH;
        }
        know(n);
        if (thePlan.isLaid(field)) {
            meanings.findSets(thePlan, known, card, field, t);
        } else {
            meanings.findValues(thePlan, known, card, field, t);
        }
        if (what == 0) {
            return meanings.sure;
        }
        return what == 1 ? meanings.maybe : meanings.found;
    }

    public int behind(int pack, int field) {
        if (!isPack(pack) || !thePlan.isField(field) || thePlan.isLaid(field)) {
            return NONE;
        }
        knowAll();
        sorter.take(packs, pack, thePlan, known, field);
        return sorter.fewestMoves();
    }

    public int sort(int pack, int field, int what) {
        if (!isPack(pack) || !thePlan.isField(field) || thePlan.isLaid(field) || what < 0) {
            return NONE;
        }
        if (thePlan.width(field) > MOST_SORT_HOLES) {
            return NONE;
        }
        knowAll();
        packs.lay(known, thePlan.holes);
        sorter.take(packs, pack, thePlan, known, field);
        if (!sorter.findRow()) {
            return NO_SUCH;
        }
        if (what == 0) {
            return sorter.passes;
        }
        return what > sorter.passes ? NONE : thePlan.firsts[field] + sorter.holeOfPass(what - 1);
    }

    public int count(int what) {
        switch (what) {
            case 0:
                return thePlan.holes;
            case 1:
                return thePlan.fields;
            case 2:
                return thePlan.words;
            case 3:
                return cards;
            case 4:
                return notes.size;
            case 5:
                return theQuestion.knots;
            case 6:
                return latestWork.passes;
            case 7:
                return latestWork.done;
            default:
                return NONE;
        }
    }

    private boolean isBy(int n) {
        return n >= 0 && n <= notes.size;
    }

    private boolean isCard(int card) {
        return card >= 0 && card < cards;
    }

    private void know(int n) {
        known.replay(thePlan, notes, n);
    }

    private void knowAll() {
        known.replay(thePlan, notes, notes.size);
    }

    private static boolean isPack(int pack) {
        return pack >= 0 && pack < PACK_LIMIT;
    }

    /** Bits first to last. */
    private static long span(int first, int last) {
        return ((1L << (last - first + 1)) - 1) << first;
    }

    /** How many ways there are to choose so many of all. */
    private static long ways(int all, int chosen) {
        long product = 1;
        for (int i = 1; i <= chosen; i++) {
            // Never a rest: i numbers in a row stand in the product.
            product = product * (all - chosen + i) / i;
        }
        return all < chosen ? 0 : product;
    }

    /** The TAPE, the tokens of the TEXT taken from it, and the FAULT found in that. */
    private static final class Text {
        final byte[] bytes = new byte[TAPE_LIMIT];
        int held;
        // One more than there are bytes, for the end.
        final int[] tokens = new int[TAPE_LIMIT + 1];
        final int[] values = new int[TAPE_LIMIT + 1];
        final int[] places = new int[TAPE_LIMIT + 1];
        int size;
        int at;
        /** The token that is to be read, with its number or packed letters, and its place. */
        int token;
        int value;
        int place;
        int fault;
        int faultPlace = NONE;

        void append(int number) {
            for (int shift = 24; shift >= 0 && held < bytes.length; shift -= 8) {
                bytes[held] = (byte) (number >> shift);
                held++;
            }
        }

        /** The first n bytes are the TEXT, the TAPE is empty; false, and all stays: there are not so many. */
        boolean begin(int n) {
            if (n < 0 || n > held) {
                return false;
            }
            held = 0;
            fault = 0;
            faultPlace = NONE;
            split(n);
            at = NONE;
            advance();
            return true;
        }

        void split(int length) {
            size = 0;
            int next = 0;
            while (next < length) {
                int sign = signAt(next);
                int end = next + 1;
                if (isLetter(sign)) {
                    end = splitLetters(next, length);
                } else if (isDigit(sign)) {
                    end = splitDigits(next, length);
                } else if (!isBlank(sign)) {
                    add(isSign(sign) ? sign : BAD, 0, next);
                }
                next = Math.max(next + 1, end);
            }
            add(END, 0, length);
        }

        int splitLetters(int from, int length) {
            int packed = 0;
            int end = from;
            while (end < length && isLetter(signAt(end))) {
                if (end - from < LETTER_LIMIT) {
                    packed |= (signAt(end) & 31) << (25 - 5 * (end - from));
                }
                end++;
            }
            if (end - from > LETTER_LIMIT) {
                add(BAD, 0, from);
            } else {
                add(isOfLanguage(packed) ? LANGUAGE : NAME, packed, from);
            }
            return end;
        }

        int splitDigits(int from, int length) {
            int number = 0;
            int end = from;
            while (end < length && isDigit(signAt(end))) {
                // Digits have no end but that of the TEXT: beyond the limit the number needn't be known.
                number = Math.min(number * 10 + signAt(end) - '0', NUMBER_LIMIT + 1);
                end++;
            }
            add(NUMBER, number, from);
            return end;
        }

        void add(int newToken, int newValue, int newPlace) {
            if (size < tokens.length) {
                tokens[size] = newToken;
                values[size] = newValue;
                places[size] = newPlace;
                size++;
            }
        }

        /** To the next token; the end is never left. */
        void advance() {
            if (at + 1 < size) {
                at++;
            }
            token = tokens[at];
            value = values[at];
            place = places[at];
        }

        boolean fail(int what) {
            fault = what;
            faultPlace = place;
            return false;
        }

        boolean failAt(int what, int where) {
            fault = what;
            faultPlace = where;
            return false;
        }

        boolean isAt(int languageWord) {
            return token == LANGUAGE && value == languageWord;
        }

        boolean isEnded() {
            return token == END || fail(STRANGE);
        }

        /** Whether the token is a number from least to most; if not, the FAULT is told. */
        boolean isNumber(int least, int most) {
            if (token != NUMBER) {
                return fail(STRANGE);
            }
            return value >= least && value <= most || fail(TOO_MUCH);
        }

        boolean passWord(int languageWord) {
            if (!isAt(languageWord)) {
                return fail(STRANGE);
            }
            advance();
            return true;
        }

        boolean passSign(char sign) {
            if (token != sign) {
                return fail(STRANGE);
            }
            advance();
            return true;
        }

        int signAt(int where) {
            return where >= 0 && where < bytes.length ? bytes[where] & 255 : 0;
        }

        static boolean isBlank(int sign) {
            return sign == 10 || sign == 32;
        }

        static boolean isLetter(int sign) {
            return sign >= 'a' && sign <= 'z';
        }

        static boolean isDigit(int sign) {
            return sign >= '0' && sign <= '9';
        }

        static boolean isSign(int sign) {
            return sign == ';' || sign == '(' || sign == ')' || sign == '=';
        }

        static boolean isOfLanguage(int letters) {
            for (int word : LANGUAGE_WORDS) {
                if (word == letters) {
                    return true;
                }
            }
            return false;
        }
    }

    /** The PLAN: HOLES, FIELDS and WORDS with the CODES told in it. */
    private static final class Plan {
        int holes = FEWEST_HOLES;
        int lines;
        int fields;
        int words;
        long takenHoles;
        final int[] fieldNames = new int[FIELD_LIMIT];
        final int[] kinds = new int[FIELD_LIMIT];
        final int[] firsts = new int[FIELD_LIMIT];
        final int[] lasts = new int[FIELD_LIMIT];
        /** VALUES of a FIELD; of a laid one K. */
        final int[] choices = new int[FIELD_LIMIT];
        final int[] wordNames = new int[WORD_LIMIT];
        final int[] wordFields = new int[WORD_LIMIT];
        final long[] wordCodes = new long[WORD_LIMIT];

        boolean read(Text text) {
            holes = FEWEST_HOLES;
            lines = 0;
            fields = 0;
            words = 0;
            takenHoles = 0;
            for (int line = 0; line <= 1 + FIELD_LIMIT + WORD_LIMIT && text.token != END; line++) {
                if (!readLine(text) || !text.passSign(';')) {
                    return false;
                }
                lines++;
            }
            return true;
        }

        boolean readLine(Text text) {
            if (text.isAt(HOLES)) {
                return readHoles(text);
            }
            if (lines > 0 && text.isAt(FIELD)) {
                return readField(text);
            }
            if (lines > 0 && text.isAt(WORD)) {
                return readWord(text);
            }
            return text.fail(STRANGE);
        }

        boolean readHoles(Text text) {
            if (lines > 0) {
                return text.fail(TOLD);
            }
            text.advance();
            if (!text.isNumber(FEWEST_HOLES, MOST_HOLES)) {
                return false;
            }
            holes = text.value;
            text.advance();
            return true;
        }

        boolean readField(Text text) {
            if (fields >= FIELD_LIMIT) {
                return text.fail(TOO_MUCH);
            }
            text.advance();
            if (!isNewName(text)) {
                return false;
            }
            fieldNames[fields] = text.value;
            text.advance();
            int kind = kindAt(text);
            if (kind == NONE) {
                return text.fail(STRANGE);
            }
            kinds[fields] = kind;
            text.advance();
            boolean isRead;
            if (kind == SUMS_KIND || kind == PAIRS_KIND) {
                isRead = readDecimal(text, kind == SUMS_KIND ? 4 : 5);
            } else {
                isRead = readStretch(text, kind == ONE_KIND ? 2 : 1) && (kind == ONE_KIND || readChosen(text));
            }
            if (!isRead) {
                return false;
            }
            takenHoles |= span(firsts[fields], lasts[fields]);
            fields++;
            return true;
        }

        boolean isNewName(Text text) {
            if (text.token != NAME) {
                return text.fail(STRANGE);
            }
            if (fieldNamed(text.value) != NONE || wordNamed(text.value) != NONE) {
                return text.fail(TOLD);
            }
            return true;
        }

        static int kindAt(Text text) {
            if (text.isAt(ONE)) {
                return ONE_KIND;
            }
            if (text.isAt(SUMS)) {
                return SUMS_KIND;
            }
            if (text.isAt(PAIRS)) {
                return PAIRS_KIND;
            }
            return text.isAt(LAID) ? LAID_KIND : NONE;
        }

        /** The HOLES A .. B of a FIELD that is one or laid. */
        boolean readStretch(Text text, int fewest) {
            int first = text.value;
            if (!text.isNumber(0, holes - 1) || !isFree(text, first, first)) {
                return false;
            }
            text.advance();
            int last = text.value;
            int most = Math.min(holes - 1, first + MOST_FIELD_HOLES - 1);
            if (!text.isNumber(first + fewest - 1, most) || !isFree(text, first, last)) {
                return false;
            }
            text.advance();
            keepHoles(first, last, last - first + 1);
            return true;
        }

        /** The HOLES of a FIELD of sums or pairs. */
        boolean readDecimal(Text text, int width) {
            int first = text.value;
            int last = first + width - 1;
            if (!text.isNumber(0, holes - width) || !isFree(text, first, last)) {
                return false;
            }
            text.advance();
            keepHoles(first, last, 10);
            return true;
        }

        boolean readChosen(Text text) {
            if (!text.isNumber(1, Math.min(MOST_CODE_HOLES, width(fields)))) {
                return false;
            }
            choices[fields] = text.value;
            text.advance();
            return true;
        }

        /** Whether no other FIELD has a HOLE from first to last; if not, the FAULT is told. */
        boolean isFree(Text text, int first, int last) {
            return (takenHoles & span(first, last)) == 0 || text.fail(TOLD);
        }

        void keepHoles(int first, int last, int choice) {
            firsts[fields] = first;
            lasts[fields] = last;
            choices[fields] = choice;
        }

        boolean readWord(Text text) {
            if (words >= WORD_LIMIT) {
                return text.fail(TOO_MUCH);
            }
            text.advance();
            if (text.token != NAME) {
                return text.fail(STRANGE);
            }
            int field = fieldNamed(text.value);
            if (!isField(field) || !isLaid(field)) {
                return text.fail(UNKNOWN);
            }
            text.advance();
            if (!isNewName(text)) {
                return false;
            }
            wordNames[words] = text.value;
            wordFields[words] = field;
            text.advance();
            if (!readCode(text, field)) {
                return false;
            }
            words++;
            return true;
        }

        boolean readCode(Text text, int field) {
            long bits = 0;
            int told = 0;
            while (told == 0 || told <= choices[field] && text.token == NUMBER) {
                int most = told < choices[field] ? width(field) - 1 : NONE;
                if (!text.isNumber(0, most)) {
                    return false;
                }
                long hole = 1L << (firsts[field] + text.value);
                if ((bits & hole) != 0) {
                    return text.fail(TOLD);
                }
                bits |= hole;
                told++;
                text.advance();
            }
            wordCodes[words] = bits;
            return told == choices[field] || text.token != ';' || text.fail(TOO_FEW);
        }

        boolean isField(int field) {
            return field >= 0 && field < fields;
        }

        boolean isWord(int word) {
            return word >= 0 && word < words;
        }

        boolean isLaid(int field) {
            return kinds[field] == LAID_KIND;
        }

        boolean isValue(int field, int value) {
            return isField(field) && !isLaid(field) && value >= 0 && value < choices[field];
        }

        int width(int field) {
            return lasts[field] - firsts[field] + 1;
        }

        long spanOf(int field) {
            return span(firsts[field], lasts[field]);
        }

        /** CODE of a VALUE; 0 if there is no such one. */
        long codeOf(int field, int value) {
            if (!isValue(field, value)) {
                return 0;
            }
            long bits = 1L << value;
            if (kinds[field] == SUMS_KIND && value < SUMS_CODES.length) {
                bits = SUMS_CODES[value];
            } else if (kinds[field] == PAIRS_KIND && value < PAIRS_CODES.length) {
                bits = PAIRS_CODES[value];
            }
            return bits << firsts[field];
        }

        /** Whether bits, from the FIELD's first HOLE on, can be a CODE of a WORD. */
        boolean isCodeOf(int word, int bits) {
            int field = wordFields[word];
            return bits >= 0 && bits >> width(field) == 0 && Integer.bitCount(bits) == choices[field];
        }

        int wordsOf(int field) {
            int bits = 0;
            for (int w = 0; w < words; w++) {
                if (wordFields[w] == field) {
                    bits |= 1 << w;
                }
            }
            return bits;
        }

        int fieldNamed(int letters) {
            return find(fieldNames, fields, letters);
        }

        int wordNamed(int letters) {
            return find(wordNames, words, letters);
        }

        static int find(int[] names, int size, int letters) {
            for (int i = 0; i < size && i < names.length; i++) {
                if (names[i] == letters) {
                    return i;
                }
            }
            return NONE;
        }
    }

    /** The NOTES as they were made, each with up to three numbers. */
    private static final class Notes {
        int size;
        final int[] kinds = new int[NOTE_LIMIT];
        final int[] firsts = new int[NOTE_LIMIT];
        final int[] seconds = new int[NOTE_LIMIT];
        final int[] thirds = new int[NOTE_LIMIT];

        int add(int kind, int first, int second, int third) {
            if (size >= NOTE_LIMIT) {
                return NONE;
            }
            kinds[size] = kind;
            firsts[size] = first;
            seconds[size] = second;
            thirds[size] = third;
            size++;
            return size - 1;
        }
    }

    /** What is KNOWN by the first so many NOTES. */
    private static final class Known {
        /** NOTCHED HOLES of each CARD. */
        final long[] cut = new long[CARD_LIMIT];
        /** WORDS that each CARD has TRULY. */
        final int[] words = new int[CARD_LIMIT];
        /** VALUES that each CARD has TRULY, all FIELDS of a CARD in a row. */
        final int[] values = new int[CARD_LIMIT * FIELD_LIMIT];
        /** CODES that the WORDS have by then. */
        final long[] codes = new long[WORD_LIMIT];
        final boolean[] struck = new boolean[NOTE_LIMIT];

        void replay(Plan plan, Notes notes, int n) {
            forget(plan);
            markStruck(notes, n);
            for (int i = 0; i < n && i < NOTE_LIMIT; i++) {
                if (!struck[i]) {
                    apply(plan, notes, i);
                }
            }
        }

        void forget(Plan plan) {
            for (int c = 0; c < CARD_LIMIT; c++) {
                cut[c] = 0;
                words[c] = 0;
            }
            for (int i = 0; i < values.length; i++) {
                values[i] = NONE;
            }
            for (int w = 0; w < WORD_LIMIT; w++) {
                codes[w] = plan.wordCodes[w];
            }
        }

        /** From the last one on: a STRIKE can only be STRUCK by a later one. */
        void markStruck(Notes notes, int n) {
            int size = Math.min(n, NOTE_LIMIT);
            for (int i = 0; i < size; i++) {
                struck[i] = false;
            }
            for (int i = size - 1; i >= 0; i--) {
                if (notes.kinds[i] == STRIKE_NOTE && !struck[i]) {
                    struck[notes.firsts[i]] = true;
                }
            }
        }

        void apply(Plan plan, Notes notes, int note) {
            int first = notes.firsts[note];
            int second = notes.seconds[note];
            switch (notes.kinds[note]) {
                case SET_NOTE:
                    values[first * FIELD_LIMIT + second] = notes.thirds[note];
                    cut[first] |= plan.codeOf(second, notes.thirds[note]);
                    break;
                case PUT_NOTE:
                    words[first] |= 1 << second;
                    cut[first] |= codes[second];
                    break;
                case TORN_NOTE:
                    cut[first] |= 1L << second;
                    break;
                case MENDED_NOTE:
                    cut[first] &= ~(1L << second);
                    break;
                case CODE_NOTE:
                    codes[first] = (long) second << plan.firsts[plan.wordFields[first]];
                    break;
                default:
                    break;
            }
        }

        int valueOf(int card, int field) {
            return values[card * FIELD_LIMIT + field];
        }

        boolean hasWord(int card, int word) {
            return (words[card] >> word & 1) != 0;
        }

        boolean isCutAt(int card, long holes) {
            return (cut[card] & holes) == holes;
        }
    }

    /** The PACKS a .. f, and how the CARDS lie in them. */
    private static final class Packs {
        final int[][] rows = new int[PACK_LIMIT][CARD_LIMIT];
        final int[] sizes = new int[PACK_LIMIT];
        final int[] hand = new int[CARD_LIMIT];
        /** Places at which each CARD is NOTCHED, as it lies. */
        final long[] places = new long[CARD_LIMIT];
        /** CARDS that are TURNED. */
        int over;

        void clear() {
            over = 0;
            for (int p = 0; p < PACK_LIMIT; p++) {
                sizes[p] = 0;
            }
        }

        void append(int pack, int card) {
            if (sizes[pack] < CARD_LIMIT) {
                rows[pack][sizes[pack]] = card;
                sizes[pack]++;
            }
        }

        void lay(Known known, int holes) {
            for (int c = 0; c < CARD_LIMIT; c++) {
                boolean isOver = (over >> c & 1) != 0;
                places[c] = isOver ? mirrored(known.cut[c], holes) : known.cut[c];
            }
        }

        static long mirrored(long bits, int holes) {
            long mirror = 0;
            for (int h = 0; h < holes; h++) {
                mirror = mirror << 1 | bits >> h & 1;
            }
            return mirror;
        }

        boolean isDropping(int card, long needles) {
            return (places[card] & needles) == needles;
        }

        int dropping(int pack, long needles) {
            int bits = 0;
            for (int i = 0; i < sizes[pack]; i++) {
                int card = rows[pack][i];
                if (isDropping(card, needles)) {
                    bits |= 1 << card;
                }
            }
            return bits;
        }

        /** All CARDS of a PACK, in their row, to the one or the other PACK (which may be the same). */
        void deal(int from, int dropped, int lifted, long needles) {
            int size = sizes[from];
            for (int i = 0; i < size; i++) {
                hand[i] = rows[from][i];
            }
            sizes[from] = 0;
            for (int i = 0; i < size; i++) {
                append(isDropping(hand[i], needles) ? dropped : lifted, hand[i]);
            }
        }
    }

    /** WORK as it was read, and what was done of it. */
    private static final class Work {
        final int[] kinds = new int[STEP_LIMIT];
        final int[] froms = new int[STEP_LIMIT];
        final int[] seconds = new int[STEP_LIMIT];
        final int[] thirds = new int[STEP_LIMIT];
        final long[] needles = new long[STEP_LIMIT];
        final int[] times = new int[STEP_LIMIT];
        /** The S that comes behind an S and all that it holds. */
        final int[] nexts = new int[STEP_LIMIT];
        int steps;
        int done;
        int passes;
        boolean spent;

        boolean read(Text text, Plan plan, Known known) {
            steps = 0;
            return readSteps(text, plan, known, 0) && text.isEnded();
        }

        boolean readSteps(Text text, Plan plan, Known known, int open) {
            for (int more = 0; more <= STEP_LIMIT && text.token == LANGUAGE; more++) {
                if (!readStep(text, plan, known, open)) {
                    return false;
                }
            }
            return true;
        }

        boolean readStep(Text text, Plan plan, Known known, int open) {
            int kind = text.value;
            if (kind != PASS && kind != JOIN && kind != AGAIN) {
                return text.fail(STRANGE);
            }
            if (steps >= STEP_LIMIT) {
                return text.fail(TOO_MUCH);
            }
            int step = steps;
            steps++;
            kinds[step] = kind;
            text.advance();
            boolean isRead;
            if (kind == PASS) {
                isRead = readPass(text, plan, known, step);
            } else if (kind == JOIN) {
                isRead = readJoin(text, step);
            } else {
                isRead = readAgain(text, plan, known, open, step);
            }
            nexts[step] = steps;
            return isRead;
        }

        boolean readPass(Text text, Plan plan, Known known, int step) {
            if (!readPack(text, froms, step) || !text.passWord(TO)) {
                return false;
            }
            if (!readPack(text, seconds, step) || !readPack(text, thirds, step) || !text.passWord(BY)) {
                return false;
            }
            needles[step] = 0;
            if (!readNeedle(text, plan, known, step)) {
                return false;
            }
            for (int more = 0; more < TAPE_LIMIT && text.token != ';'; more++) {
                if (!readNeedle(text, plan, known, step)) {
                    return false;
                }
            }
            return text.passSign(';');
        }

        boolean readPack(Text text, int[] row, int step) {
            int letter = text.token == NAME ? text.value >> 25 : 0;
            if (letter < 1 || letter > PACK_LIMIT || text.value != letter << 25) {
                return text.fail(STRANGE);
            }
            row[step] = letter - 1;
            text.advance();
            return true;
        }

        boolean readNeedle(Text text, Plan plan, Known known, int step) {
            int first = 0;
            int most = plan.holes - 1;
            if (text.token == NAME) {
                int word = plan.wordNamed(text.value);
                if (plan.isWord(word)) {
                    needles[step] |= known.codes[word];
                    text.advance();
                    return true;
                }
                int field = plan.fieldNamed(text.value);
                if (!plan.isField(field)) {
                    return text.fail(UNKNOWN);
                }
                first = plan.firsts[field];
                most = plan.width(field) - 1;
                text.advance();
            }
            if (!text.isNumber(0, most)) {
                return false;
            }
            needles[step] |= 1L << (first + text.value);
            text.advance();
            return true;
        }

        boolean readJoin(Text text, int step) {
            if (!readPack(text, froms, step)) {
                return false;
            }
            int place = text.place;
            if (!readPack(text, seconds, step)) {
                return false;
            }
            if (froms[step] == seconds[step]) {
                return text.failAt(TOLD, place);
            }
            return text.passSign(';');
        }

        boolean readAgain(Text text, Plan plan, Known known, int open, int step) {
            if (!text.isNumber(0, NUMBER_LIMIT)) {
                return false;
            }
            times[step] = text.value;
            text.advance();
            if (text.token == '(' && open >= WORK_OPEN_LIMIT) {
                return text.fail(TOO_MUCH);
            }
            return text.passSign('(') && readSteps(text, plan, known, open + 1) && text.passSign(')');
        }

        /** Does what was read; false if it is SPENT. */
        boolean isDoneBy(Packs packs) {
            done = 0;
            passes = 0;
            spent = false;
            doSteps(packs, 0, steps, 0);
            return !spent;
        }

        void doSteps(Packs packs, int from, int to, int open) {
            if (open > WORK_OPEN_LIMIT) {
                return;
            }
            for (int step = from; step < to && step < STEP_LIMIT && !spent; step = Math.max(step + 1, nexts[step])) {
                if (done >= STEPS_DONE_LIMIT) {
                    spent = true;
                } else {
                    done++;
                    doStep(packs, step, open);
                }
            }
        }

        void doStep(Packs packs, int step, int open) {
            if (kinds[step] == PASS) {
                passes++;
                packs.deal(froms[step], seconds[step], thirds[step], needles[step]);
            } else if (kinds[step] == JOIN) {
                packs.deal(froms[step], seconds[step], seconds[step], 0);
            } else {
                for (int time = 0; time < times[step] && !spent; time++) {
                    doSteps(packs, step + 1, nexts[step], open + 1);
                }
            }
        }
    }

    /** The QUESTION, its KNOTS in the order in which they are answered: parts ahead of what joins them. */
    private static final class Question {
        static final int HAS_VALUE = 0;
        static final int HAS_WORD = 1;
        static final int NEITHER = 2;
        static final int BOTH = 3;
        static final int EITHER = 4;

        final int[] kinds = new int[KNOT_LIMIT];
        final int[] firsts = new int[KNOT_LIMIT];
        final int[] seconds = new int[KNOT_LIMIT];
        final int[] answers = new int[KNOT_LIMIT];
        int knots;
        int laidDown;

        void clear() {
            knots = 0;
            laidDown = 0;
        }

        boolean read(Text text, Plan plan) {
            clear();
            return readEither(text, plan, 0) && text.isEnded();
        }

        boolean readEither(Text text, Plan plan, int open) {
            if (!readBoth(text, plan, open)) {
                return false;
            }
            for (int more = 0; more <= KNOT_LIMIT && text.isAt(OR); more++) {
                if (!passKnot(text) || !readBoth(text, plan, open)) {
                    return false;
                }
                layDown(EITHER, 0, 0);
            }
            return true;
        }

        boolean readBoth(Text text, Plan plan, int open) {
            if (!readPart(text, plan, open)) {
                return false;
            }
            for (int more = 0; more <= KNOT_LIMIT && text.isAt(AND); more++) {
                if (!passKnot(text) || !readPart(text, plan, open)) {
                    return false;
                }
                layDown(BOTH, 0, 0);
            }
            return true;
        }

        boolean readPart(Text text, Plan plan, int open) {
            int nots = 0;
            while (nots <= KNOT_LIMIT && text.isAt(NOT)) {
                if (!passKnot(text)) {
                    return false;
                }
                nots++;
            }
            boolean isRead = text.token == '(' ? readInner(text, plan, open) : readName(text, plan);
            for (int i = 0; i < nots && isRead; i++) {
                layDown(NEITHER, 0, 0);
            }
            return isRead;
        }

        boolean readInner(Text text, Plan plan, int open) {
            if (open >= QUESTION_OPEN_LIMIT) {
                return text.fail(TOO_MUCH);
            }
            text.advance();
            return readEither(text, plan, open + 1) && text.passSign(')');
        }

        boolean readName(Text text, Plan plan) {
            if (text.token != NAME) {
                return text.fail(STRANGE);
            }
            int name = text.value;
            int place = text.place;
            if (!passKnot(text)) {
                return false;
            }
            boolean hasValue = text.token == '=';
            int number = hasValue ? plan.fieldNamed(name) : plan.wordNamed(name);
            if (number == NONE || hasValue && plan.isLaid(number)) {
                return text.failAt(UNKNOWN, place);
            }
            if (!hasValue) {
                layDown(HAS_WORD, number, 0);
                return true;
            }
            text.advance();
            if (!text.isNumber(0, plan.choices[number] - 1)) {
                return false;
            }
            layDown(HAS_VALUE, number, text.value);
            text.advance();
            return true;
        }

        boolean passKnot(Text text) {
            if (knots >= KNOT_LIMIT) {
                return text.fail(TOO_MUCH);
            }
            knots++;
            text.advance();
            return true;
        }

        void layDown(int kind, int first, int second) {
            if (laidDown < KNOT_LIMIT) {
                kinds[laidDown] = kind;
                firsts[laidDown] = first;
                seconds[laidDown] = second;
                laidDown++;
            }
        }

        /** CARDS for which it holds, in truth or by HOLES. */
        int answer(Plan plan, Known known, int cards, boolean inTruth) {
            int all = (int) span(0, cards - 1);
            int top = NONE;
            for (int i = 0; i < laidDown; i++) {
                if (kinds[i] == HAS_VALUE || kinds[i] == HAS_WORD) {
                    top++;
                    answers[top] = inTruth ? cardsInTruth(known, cards, i) : cardsByHoles(plan, known, cards, i);
                } else if (kinds[i] == NEITHER && top >= 0) {
                    answers[top] = all & ~answers[top];
                } else if (top >= 1) {
                    int joined = kinds[i] == BOTH ? answers[top - 1] & answers[top] : answers[top - 1] | answers[top];
                    top--;
                    answers[top] = joined;
                }
            }
            return top >= 0 ? answers[0] : 0;
        }

        int cardsByHoles(Plan plan, Known known, int cards, int knot) {
            boolean isWord = kinds[knot] == HAS_WORD;
            long holes = isWord ? known.codes[firsts[knot]] : plan.codeOf(firsts[knot], seconds[knot]);
            int bits = 0;
            for (int c = 0; c < cards; c++) {
                if (known.isCutAt(c, holes)) {
                    bits |= 1 << c;
                }
            }
            return bits;
        }

        int cardsInTruth(Known known, int cards, int knot) {
            boolean isWord = kinds[knot] == HAS_WORD;
            int bits = 0;
            for (int c = 0; c < cards; c++) {
                boolean has = isWord ? known.hasWord(c, firsts[knot]) : known.valueOf(c, firsts[knot]) == seconds[knot];
                if (has) {
                    bits |= 1 << c;
                }
            }
            return bits;
        }
    }

    /** The search for a WORD's BEST CODE. */
    private static final class BestCode {
        /** CARDS without the WORD that are NOTCHED at each HOLE of the FIELD. */
        final int[] cutCards = new int[MOST_FIELD_HOLES];
        /** How many other WORDS' CODES have each HOLE of the FIELD. */
        final int[] shares = new int[MOST_FIELD_HOLES];
        int bits;
        int fewestDrops;
        int fewestShared;

        int find(Plan plan, Known known, int cards, int word) {
            int field = plan.wordFields[word];
            int without = 0;
            for (int c = 0; c < cards; c++) {
                if (!known.hasWord(c, word)) {
                    without |= 1 << c;
                }
            }
            int width = Math.min(plan.width(field), MOST_FIELD_HOLES);
            for (int h = 0; h < width; h++) {
                int hole = plan.firsts[field] + h;
                cutCards[h] = without & cardsCutAt(known, cards, hole);
                shares[h] = othersAt(plan, known, word, hole);
            }
            bits = NONE;
            choose(plan.choices[field], width, 0, without, 0);
            return bits;
        }

        static int cardsCutAt(Known known, int cards, int hole) {
            int found = 0;
            for (int c = 0; c < cards; c++) {
                found |= (int) (known.cut[c] >> hole & 1) << c;
            }
            return found;
        }

        static int othersAt(Plan plan, Known known, int word, int hole) {
            int others = 0;
            for (int w = 0; w < plan.words; w++) {
                if (w != word && (known.codes[w] >> hole & 1) != 0) {
                    others++;
                }
            }
            return others;
        }

        /** Highest HOLE first, so that CODES come by their bits: of like ones the first stays. */
        void choose(int left, int below, int chosen, int dropping, int shared) {
            if (left <= 0) {
                weigh(chosen, Integer.bitCount(dropping), shared);
                return;
            }
            for (int h = left - 1; h < below; h++) {
                choose(left - 1, h, chosen | 1 << h, dropping & cutCards[h], shared + shares[h]);
            }
        }

        void weigh(int chosen, int drops, int shared) {
            boolean isBetter = drops < fewestDrops || drops == fewestDrops && shared < fewestShared;
            if (bits == NONE || isBetter) {
                bits = chosen;
                fewestDrops = drops;
                fewestShared = shared;
            }
        }
    }

    /** What a FIELD's NOTCHED HOLES can MEAN. */
    private static final class Meanings {
        final int[] words = new int[WORD_LIMIT];
        final long[] codes = new long[WORD_LIMIT];
        int size;
        int torn;
        int sure;
        int maybe;
        int found;

        void findSets(Plan plan, Known known, int card, int field, int t) {
            long holes = known.cut[card] & plan.spanOf(field);
            size = 0;
            for (int w = 0; w < plan.words && w < WORD_LIMIT; w++) {
                if (plan.wordFields[w] == field && known.isCutAt(card, known.codes[w])) {
                    words[size] = w;
                    codes[size] = known.codes[w];
                    size++;
                }
            }
            torn = t;
            sure = plan.wordsOf(field);
            maybe = 0;
            found = 0;
            chooseFrom(0, 0, holes);
            if (found == 0) {
                sure = 0;
            }
        }

        /** All sets of the WORDS from one on, with those chosen, that leave open what is of none. */
        void chooseFrom(int from, int chosen, long open) {
            if (from < size) {
                chooseFrom(from + 1, chosen, open);
                chooseFrom(from + 1, chosen | 1 << words[from], open & ~codes[from]);
            } else if (Long.bitCount(open) <= torn) {
                found++;
                sure &= chosen;
                maybe |= chosen;
            }
        }

        void findValues(Plan plan, Known known, int card, int field, int t) {
            long holes = known.cut[card] & plan.spanOf(field);
            sure = NONE;
            maybe = 0;
            found = 0;
            for (int v = 0; v < plan.choices[field]; v++) {
                long bits = plan.codeOf(field, v);
                if ((holes & bits) == bits && Long.bitCount(holes & ~bits) <= t) {
                    found++;
                    sure = found == 1 ? v : NONE;
                    maybe |= 1 << v;
                }
            }
        }
    }

    /** A PACK and a FIELD by which it is to be put in ORDER. */
    private static final class Sorter {
        static final int SETS = 1 << MOST_SORT_HOLES;
        static final int DIGIT = 3;
        /** No VALUE, and not that of a CARD without one (NONE), is as low or as high. */
        static final int BELOW_ALL = NONE - 1;
        static final int ABOVE_ALL = NUMBER_LIMIT + 1;

        int size;
        int width;
        final int[] values = new int[CARD_LIMIT];
        /** The FIELD's HOLES at which each CARD DROPS, the first lowest. */
        final int[] cuts = new int[CARD_LIMIT];
        /** Longest row in ORDER that ends with each CARD. */
        final int[] lengths = new int[CARD_LIMIT];
        /** For each set of HOLES the first row of them that, done last, mixes no VALUES; NONE without. */
        final int[] rowsOf = new int[SETS];
        final int[] highest = new int[SETS];
        final int[] lowest = new int[SETS];
        int passes;
        int row;

        void take(Packs packs, int pack, Plan plan, Known known, int field) {
            size = packs.sizes[pack];
            width = Math.min(plan.width(field), MOST_SORT_HOLES);
            for (int i = 0; i < size; i++) {
                int card = packs.rows[pack][i];
                values[i] = known.valueOf(card, field);
                cuts[i] = (int) (packs.places[card] >> plan.firsts[field]) & (1 << width) - 1;
            }
        }

        /** All CARDS but the longest row that is in ORDER already. */
        int fewestMoves() {
            int longest = 0;
            for (int i = 0; i < size; i++) {
                lengths[i] = 1;
                for (int j = 0; j < i; j++) {
                    if (values[j] <= values[i]) {
                        lengths[i] = Math.max(lengths[i], lengths[j] + 1);
                    }
                }
                longest = Math.max(longest, lengths[i]);
            }
            return size - longest;
        }

        /**
         * CARDS come to lie by the last pass, then by the one ahead of it, and so on; those alike at all HOLES lie as
         * before. So it counts only which HOLES the later passes have: rows grow from their end, a set at a time.
         */
        boolean findRow() {
            passes = NONE;
            rowsOf[0] = 0;
            for (int set = 0; set < 1 << width; set++) {
                if (set > 0) {
                    rowsOf[set] = firstRow(set);
                }
                int holes = Integer.bitCount(set);
                boolean isBetter = passes == NONE || holes < passes || holes == passes && rowsOf[set] < row;
                if (rowsOf[set] != NONE && isBetter && isOrdered(set)) {
                    passes = holes;
                    row = rowsOf[set];
                }
            }
            return passes != NONE;
        }

        /** A row is kept as a number, a digit for each pass, the first one highest: the least is the first row. */
        int firstRow(int set) {
            int digits = Integer.bitCount(set) - 1;
            for (int h = 0; h < width; h++) {
                int later = set & ~(1 << h);
                if (later != set && rowsOf[later] != NONE && isParting(later, h)) {
                    return h << DIGIT * digits | rowsOf[later];
                }
            }
            return NONE;
        }

        /** Whether of CARDS alike at the later HOLES none DROPS with a VALUE below that of one LIFTED. */
        boolean isParting(int later, int hole) {
            for (int i = 0; i < size; i++) {
                highest[cuts[i] & later] = BELOW_ALL;
                lowest[cuts[i] & later] = ABOVE_ALL;
            }
            for (int i = 0; i < size; i++) {
                int like = cuts[i] & later;
                if ((cuts[i] >> hole & 1) != 0) {
                    lowest[like] = Math.min(lowest[like], values[i]);
                } else {
                    highest[like] = Math.max(highest[like], values[i]);
                }
                if (highest[like] > lowest[like]) {
                    return false;
                }
            }
            return true;
        }

        /** Whether CARDS alike at these HOLES lie in ORDER already. */
        boolean isOrdered(int set) {
            for (int i = 0; i < size; i++) {
                highest[cuts[i] & set] = BELOW_ALL;
            }
            for (int i = 0; i < size; i++) {
                if (values[i] < highest[cuts[i] & set]) {
                    return false;
                }
                highest[cuts[i] & set] = values[i];
            }
            return true;
        }

        /** Counted from the FIELD's first HOLE on. */
        int holeOfPass(int pass) {
            return row >> DIGIT * (passes - 1 - pass) & (1 << DIGIT) - 1;
        }
    }
}
