/** The tape and the face (promises 1, 2, 6 to 10, 31), terms 2 and promises 11 to 18: each limit, and one beyond it. */
public final class NotesLimitsTest {
    private static final String PLAN = "holes 30;field kind one 0 3;field year sums 4;field no pairs 8;field top laid 13 22 2;"
            + "word top iron 0 1;word top wood 2 3;word top clay 1 2;";

    private final Check check = new Check("NotesLimitsTest");

    public static void main(String[] args) {
        NotesLimitsTest test = new NotesLimitsTest();
        test.aNewObject();
        test.fiveHundredBytes();
        test.theHighestByteFirst();
        test.theLatestFault();
        test.lettersOfNames();
        test.looks();
        test.thirtyCards();
        test.hundredAndFiftyNotes();
        test.knownByFewerOrMore();
        test.setsAndTheLatestOne();
        test.putsAndTheirCodes();
        test.tornAndMended();
        test.codesOfWords();
        test.recodesOfAllWidths();
        test.strikes();
        test.strikesOfStrikes();
        test.sixtyHoles();
        test.counts();
        test.fiveHundredAndTwelveCalls();
        test.check.end();
    }

    /** Promise 1: "A PLAN of 10 HOLES without FIELDS; no CARDS, NOTES, QUESTION; an empty TAPE." */
    private void aNewObject() {
        NotchedCards x = new NotchedCards();
        int[] counts = {10, 0, 0, 0, 0, 0, 0, 0};
        for (int what = 0; what < 8; what++) {
            check.due("count(" + what + ")", x.count(what), counts[what]);
        }
        check.fault(x, "at first", 0, -1);
        check.due("no question", x.ask(0, 0), -1);
        check.due("no field", Seen.look(x, 0, 0), -100);
        check.due("no word", x.coded(0, 0), 0);
        check.due("no code", x.code(0, 0), 0);
        check.due("no card", x.notched(0, 0), -1);
        check.due("no card turned", x.turned(), 0);
        check.due("no card to turn", x.turn(0) ? 1 : 0, 0);
        check.due("no note", x.strike(0), -1);
        check.due("an empty tape", x.plan(1), -2);
        check.due("an empty tape", x.work(1), -2);
        check.due("an empty tape", x.question(1), -2);
        check.fault(x, "-2 is no fault", 0, -1);
        check.due("gather", x.gather(), 0);
        check.due("a card", x.card(), 0);
        check.due("a card without notes", x.notched(0, 0), 0);
        check.due("hole 9", x.tear(0, 9, false), 0);
        check.due("hole 10", x.tear(0, 10, false), -1);
        check.due("an empty tape", x.feed(0, 0, 0, 0, 0), 20);
        check.due("another object", new NotchedCards().count(3), 0);
    }

    /** Promise 2: "how many it has; NONE, and none come, if it would have more than 500". */
    private void fiveHundredBytes() {
        NotchedCards x = new NotchedCards();
        int blanks = 0x20202020;
        for (int i = 1; i <= 24; i++) {
            check.due("feed " + i, x.feed(blanks, blanks, blanks, blanks, blanks), 20 * i);
        }
        // "holes 20;" behind 480 blanks.
        check.due("feed 25", x.feed(0x686f6c65, 0x73203230, 0x3b202020, blanks, blanks), 500);
        check.due("feed 26", x.feed(0x3b3b3b3b, 0x3b3b3b3b, 0x3b3b3b3b, 0x3b3b3b3b, 0x3b3b3b3b), -1);
        check.due("feed 27", x.feed(blanks, blanks, blanks, blanks, blanks), -1);
        check.due("501 bytes", x.plan(501), -2);
        check.due("500 bytes", x.plan(500), 1);
        check.due("holes", x.count(0), 20);
        check.due("0 bytes then", x.plan(0), 0);
        check.due("no byte then", x.plan(1), -2);
        check.due("feed anew", x.feed(blanks, blanks, blanks, blanks, blanks), 20);
        check.due("21 bytes", x.work(21), -2);
        check.due("20 bytes", x.work(20), 0);
        check.due("feed anew", x.feed(blanks, blanks, blanks, blanks, blanks), 20);
    }

    /** "four of each number, the highest first". */
    private void theHighestByteFirst() {
        NotchedCards x = new NotchedCards();
        String text = "holes 11;holes 12;ab";
        int[] numbers = new int[5];
        for (int i = 0; i < 20; i++) {
            numbers[i / 4] = numbers[i / 4] << 8 | text.charAt(i);
        }
        x.feed(numbers[0], numbers[1], numbers[2], numbers[3], numbers[4]);
        check.due("holes 11;", x.plan(9), 1);
        check.due("holes 11;", x.count(0), 11);
        for (int place = 0; place < 20; place++) {
            NotchedCards y = new NotchedCards();
            int[] blank = {0x20202020, 0x20202020, 0x20202020, 0x20202020, 0x20202020};
            blank[place / 4] ^= (0x20 ^ 0xff) << 24 - 8 * (place % 4);
            y.feed(blank[0], blank[1], blank[2], blank[3], blank[4]);
            check.due("a byte 255 at " + place, y.plan(20), -1);
            check.fault(y, "a byte 255 at " + place, 1, place);
        }
    }

    /** Promise 6: "Of the latest of these that was not -2, what 0: its FAULT (0), 1: its place (NONE without)." */
    private void theLatestFault() {
        NotchedCards x = Check.made(PLAN, 1);
        check.fault(x, "a right plan", 0, -1);
        check.due("a wrong question", Check.question(x, "iron what"), -1);
        check.fault(x, "a wrong question", 1, 5);
        check.due("-2", x.plan(1), -2);
        check.due("-2", x.work(-1), -2);
        check.due("-2", x.question(2), -2);
        check.fault(x, "then -2", 1, 5);
        check.due("other calls", x.set(9, 9, 9), -1);
        check.due("other calls", x.feed(0, 0, 0, 0, 0), 20);
        check.fault(x, "then other calls", 1, 5);
        check.due("the empty work", x.work(0), 0);
        check.fault(x, "the empty work", 0, -1);
        check.due("wrong work", Check.work(x, "join a b;join c c;"), -1);
        check.fault(x, "wrong work", 3, 16);
        check.due("spent work", Check.work(x, "again 99(again 99())again 99(again 99(again 99()))"), 1);
        check.fault(x, "spent work has none", 0, -1);
        check.due("a wrong plan", Check.plan(x, "holes 30;field a laid 0 3 2;word a b 0;"), -1);
        check.fault(x, "a wrong plan", 5, 38);
        check.due("a right question", Check.question(x, "iron"), 1);
        check.fault(x, "a right question", 0, -1);
        int[] others = {2, 3, -1, Integer.MAX_VALUE, Integer.MIN_VALUE};
        for (int what : others) {
            check.due("fault(" + what + ")", x.fault(what), -1);
        }
    }

    /** Promise 7: "5 bits each (a is 1; the first one highest of six, 0 behind the last one); NONE: there is none such." */
    private void lettersOfNames() {
        NotchedCards x = Check.made("holes 20;field a laid 0 3 1;field zzzzzz one 4 5;word a b 0;word a abcdef 1;", 0);
        check.due("a", x.named(0, 1 << 25), 0);
        check.due("zzzzzz", x.named(0, 26 << 25 | 26 << 20 | 26 << 15 | 26 << 10 | 26 << 5 | 26), 1);
        check.due("b", x.named(1, 2 << 25), 0);
        check.due("abcdef", x.named(1, 1 << 25 | 2 << 20 | 3 << 15 | 4 << 10 | 5 << 5 | 6), 1);
        check.due("a is no word", x.named(1, 1 << 25), -1);
        check.due("b is no field", x.named(0, 2 << 25), -1);
        check.due("zzzzz", x.named(0, 26 << 25 | 26 << 20 | 26 << 15 | 26 << 10 | 26 << 5), -1);
        check.due("abcdeg", x.named(1, 1 << 25 | 2 << 20 | 3 << 15 | 4 << 10 | 5 << 5 | 7), -1);
        check.due("abcde", x.named(1, 1 << 25 | 2 << 20 | 3 << 15 | 4 << 10 | 5 << 5), -1);
        int[] none = {0, 1, 2, 1 << 20, 1 << 25 | 1, 1 << 25 | 1 << 30, 1 << 25 | 1 << 31, -1, Integer.MAX_VALUE, Integer.MIN_VALUE};
        for (int letters : none) {
            check.due("field " + letters, x.named(0, letters), -1);
            check.due("word " + letters, x.named(1, letters), -1);
        }
        int[] others = {2, -1, Integer.MAX_VALUE, Integer.MIN_VALUE};
        for (int what : others) {
            check.due("what " + what, x.named(what, 1 << 25), -1);
            check.due("what " + what, x.named(what, 2 << 25), -1);
        }
        Check.plan(x, "holes 20;field c one 0 1;");
        check.due("a is gone", x.named(0, 1 << 25), -1);
        check.due("b is gone", x.named(1, 2 << 25), -1);
        Check.plan(x, "holes 20;field d one 0 1;field e one 2 ");
        check.due("d never was", x.named(0, 4 << 25), -1);
        check.due("c stays", x.named(0, 3 << 25), 0);
    }

    /** Promise 8: "IndexOutOfBoundsException: no such FIELD. NoSuchElementException: no such what." */
    private void looks() {
        NotchedCards x = Check.made(PLAN, 0);
        int[][] rows = {{0, 0, 3, 4}, {1, 4, 7, 10}, {2, 8, 12, 10}, {3, 13, 22, 2}};
        int[] others = {4, 5, -1, Integer.MAX_VALUE, Integer.MIN_VALUE};
        for (int field = 0; field < 4; field++) {
            for (int what = 0; what < 4; what++) {
                check.due("look(" + field + ", " + what + ")", Seen.look(x, field, what), rows[field][what]);
            }
            for (int other : others) {
                check.due("look(" + field + ", " + other + ")", Seen.look(x, field, other), -200);
                check.due("look(" + other + ", " + field + ")", Seen.look(x, other, field), -100);
            }
        }
        check.due("after it, all is as before", Seen.look(x, 3, 3), 2);
    }

    /** "CARDS, at most 30, numbered from 0 on." */
    private void thirtyCards() {
        NotchedCards x = Check.made(PLAN, 0);
        for (int c = 0; c < 30; c++) {
            check.due("set of card " + c, x.set(c, 0, 1), -1);
            check.due("card()", x.card(), c);
            check.due("cards", x.count(3), c + 1);
            check.due("notched of card " + (c + 1), x.notched(0, c + 1), -1);
        }
        check.due("a 31st", x.card(), -1);
        check.due("a 31st, once more", x.card(), -1);
        check.due("cards", x.count(3), 30);
        check.due("set of card 29", x.set(29, 0, 3), 0);
        check.due("set of card 30", x.set(30, 0, 3), -1);
        check.due("put of card 29", x.put(29, 2), 1);
        check.due("put of card 30", x.put(30, 2), -1);
        check.due("tear of card 29", x.tear(29, 29, false), 2);
        check.due("tear of card 30", x.tear(30, 29, false), -1);
        check.due("notched of card 29", x.notched(3, 29), 1L << 3 | 3L << 14 | 1L << 29);
        check.due("truly of card 29", x.truly(3, 29, 3), 4);
        check.due("truly of card 29", x.truly(3, 29, 0), 3);
        check.due("truly of card 30", x.truly(3, 30, 0), -2);
        check.due("means of card 29", x.means(3, 29, 0, 0, 0), 3);
        check.due("means of card 30", x.means(3, 30, 0, 0, 0), -2);
        check.due("notched of card 0", x.notched(3, 0), 0);
        check.due("notched of card 28", x.notched(3, 28), 0);
    }

    /** "NOTES, at most 150, numbered from 0 on": each kind as the last one, and one beyond it. */
    private void hundredAndFiftyNotes() {
        for (int kind = 0; kind < 6; kind++) {
            NotchedCards x = Check.made(PLAN, 1);
            for (int i = 0; i < 149; i++) {
                x.tear(0, 28, i % 2 != 0);
            }
            check.due("notes", x.count(4), 149);
            check.due("the last one", note(x, kind), 149);
            check.due("notes", x.count(4), 150);
            long[] notched = {1L << 28 | 8, 1L << 28 | 3L << 13, 1L << 28 | 1, 0, 1L << 28, 0};
            check.due("kind " + kind + ": the last one counts", x.notched(150, 0), notched[kind]);
            check.due("known by 149", x.notched(149, 0), 1L << 28);
            check.due("known by 151", x.notched(151, 0), -1);
            check.due("code known by 150", x.coded(150, 0), kind == 4 ? 3L << 21 : 3L << 13);
            check.due("code known by 151", x.coded(151, 0), 0);
            for (int other = 0; other < 6; other++) {
                check.due("one beyond it", note(x, other), -1);
            }
            check.due("notes", x.count(4), 150);
            check.due("all stays", x.notched(150, 0), notched[kind]);
            check.due("drops", x.drops(0, 1L << 28), notched[kind] >> 28);
        }
    }

    private static int note(NotchedCards x, int kind) {
        switch (kind) {
            case 0:
                return x.set(0, 0, 3);
            case 1:
                return x.put(0, 0);
            case 2:
                return x.tear(0, 0, false);
            case 3:
                return x.tear(0, 28, true);
            case 4:
                return x.recode(0, 3 << 8);
            default:
                return x.strike(148);
        }
    }

    /** "As KNOWN by n: the first n NOTES": 0, all, one more, below 0, in each call that has an n. */
    private void knownByFewerOrMore() {
        NotchedCards x = Check.made(PLAN, 2);
        x.put(0, 0);
        x.recode(0, 3 << 8);
        x.set(0, 0, 2);
        Check.question(x, "iron");
        int[] none = {4, 5, 150, 151, -1, Integer.MAX_VALUE, Integer.MIN_VALUE};
        for (int n : none) {
            check.due("coded by " + n, x.coded(n, 0), 0);
            check.due("notched by " + n, x.notched(n, 0), -1);
            check.due("truly by " + n, x.truly(n, 0, 0), -2);
            check.due("ask by " + n, x.ask(n, 1), -1);
            check.due("likely by " + n, x.likely(n, 0, 0), -1);
            check.due("likely by " + n, x.likely(n, 0, 1), -1);
            check.due("falsely by " + n, x.falsely(n, 0), -1);
            check.due("best by " + n, x.best(n, 0), -1);
            check.due("means by " + n, x.means(n, 0, 0, 0, 1), -2);
        }
        check.due("coded by 0", x.coded(0, 0), 3L << 13);
        check.due("notched by 0", x.notched(0, 0), 0);
        check.due("truly by 0", x.truly(0, 0, 0), -1);
        check.due("ask by 0", x.ask(0, 1), 0);
        check.due("likely by 0", x.likely(0, 0, 0), 0);
        check.due("falsely by 0", x.falsely(0, 0), 0);
        check.due("best by 0", x.best(0, 0), 1 | 1 << 4);
        check.due("means by 0", x.means(0, 0, 0, 0, 1), 0);
        check.due("coded by 3", x.coded(3, 0), 3L << 21);
        check.due("notched by 3", x.notched(3, 0), 3L << 13 | 4);
        check.due("truly by 3", x.truly(3, 0, 0), 2);
        check.due("ask by 3", x.ask(3, 1), 1);
        check.due("likely of wood by 3", x.likely(3, 1, 0), 1);
        check.due("falsely by 3", x.falsely(3, 0), 0);
        check.due("means by 3", x.means(3, 0, 0, 0, 1), 4);
    }

    /** "TRULY a CARD has the VALUE of its latest SET of the FIELD (none without)"; holes of earlier ones stay notched. */
    private void setsAndTheLatestOne() {
        NotchedCards x = Check.made(PLAN, 2);
        check.due("none without", x.truly(0, 0, 1), -1);
        check.due("set 3", x.set(0, 1, 3), 0);
        check.due("set 0", x.set(0, 1, 0), 1);
        check.due("set 8", x.set(0, 1, 8), 2);
        check.due("another field", x.set(0, 2, 5), 3);
        check.due("another card", x.set(1, 1, 7), 4);
        int[] truly = {-1, 3, 0, 8, 8, 8};
        long[] notched = {0, 192, 192, 208, 208 | 2560, 208 | 2560};
        for (int n = 0; n <= 5; n++) {
            check.due("truly by " + n, x.truly(n, 0, 1), truly[n]);
            check.due("notched by " + n, x.notched(n, 0), notched[n]);
            check.due("card 1 by " + n, x.truly(n, 1, 1), n == 5 ? 7 : -1);
        }
        check.due("the latest is struck", x.strike(2), 5);
        check.due("then the one ahead of it", x.truly(6, 0, 1), 0);
        check.due("its holes, too", x.notched(6, 0), 192 | 2560);
        x.strike(1);
        check.due("then the first", x.truly(7, 0, 1), 3);
        x.strike(0);
        check.due("then none", x.truly(8, 0, 1), -1);
        check.due("the other field stays", x.notched(8, 0), 2560);
    }

    /** "PUT: a CARD has a WORD: notched by the CODE that the WORD has by then"; "all WORDS that were PUT". */
    private void putsAndTheirCodes() {
        NotchedCards x = Check.made("holes 40;field a laid 0 5 1;field b laid 6 11 1;word a p 0;word b q 1;word a r 5;", 1);
        check.due("no words", x.truly(0, 0, 0), 0);
        check.due("put r", x.put(0, 2), 0);
        check.due("put q", x.put(0, 1), 1);
        check.due("put r once more", x.put(0, 2), 2);
        check.due("words of a", x.truly(3, 0, 0), 4);
        check.due("words of b", x.truly(3, 0, 1), 2);
        check.due("notched", x.notched(3, 0), 32 | 128);
        x.strike(0);
        check.due("put twice, struck once", x.truly(4, 0, 0), 4);
        x.strike(2);
        check.due("put twice, struck twice", x.truly(5, 0, 0), 0);
        check.due("notched", x.notched(5, 0), 128);
        x.tear(0, 7, true);
        check.due("truly what was put, though mended", x.truly(6, 0, 1), 2);
        check.due("notched", x.notched(6, 0), 0);
    }

    /** "2 TORN: a HOLE of a CARD is notched; 3 MENDED: it isn't any more". */
    private void tornAndMended() {
        NotchedCards x = Check.made(PLAN, 2);
        check.due("mended, though whole", x.tear(0, 5, true), 0);
        check.due("torn", x.tear(0, 5, false), 1);
        check.due("torn twice", x.tear(0, 5, false), 2);
        check.due("mended", x.tear(0, 5, true), 3);
        check.due("mended twice", x.tear(0, 5, true), 4);
        check.due("set", x.set(0, 1, 4), 5);
        check.due("mended", x.tear(0, 5, true), 6);
        check.due("set anew", x.set(0, 1, 4), 7);
        long[] notched = {0, 0, 32, 32, 0, 0, 32, 0, 32};
        for (int n = 0; n <= 8; n++) {
            check.due("by " + n, x.notched(n, 0), notched[n]);
            check.due("another card by " + n, x.notched(n, 1), 0);
        }
        x.strike(6);
        check.due("mending struck", x.notched(9, 0), 32);
        x.strike(5);
        x.strike(7);
        check.due("sets struck", x.notched(11, 0), 0);
        check.due("no value", x.truly(11, 0, 1), -1);
        int[] none = {30, 31, 59, 60, 64, -1, Integer.MAX_VALUE, Integer.MIN_VALUE};
        for (int hole : none) {
            check.due("torn " + hole, x.tear(0, hole, false), -1);
            check.due("mended " + hole, x.tear(0, hole, true), -1);
        }
        check.due("the last hole", x.tear(0, 29, false), 11);
    }

    /** Promise 10: "CODE of a WORD as KNOWN by n (bits of HOLES); 0: no such ones." */
    private void codesOfWords() {
        NotchedCards x = Check.made(PLAN, 1);
        x.recode(0, 3 << 8);
        x.recode(0, 1 | 1 << 9);
        x.strike(1);
        x.strike(0);
        long[] codes = {3L << 13, 3L << 21, 1L << 13 | 1L << 22, 3L << 21, 3L << 13};
        for (int n = 0; n <= 4; n++) {
            check.due("iron by " + n, x.coded(n, 0), codes[n]);
            check.due("clay by " + n, x.coded(n, 2), 3L << 14);
            check.due("a fourth word by " + n, x.coded(n, 3), 0);
            check.due("word -1 by " + n, x.coded(n, -1), 0);
        }
        check.due("by 5", x.coded(5, 0), 0);
        check.due("by -1", x.coded(-1, 0), 0);
    }

    /** Promise 15: "bits of the FIELD's HOLES, its first one lowest: K of them". */
    private void recodesOfAllWidths() {
        for (int k = 1; k <= 4; k++) {
            String told = " 0 1 2 3".substring(0, 2 * k);
            NotchedCards x = Check.made("holes 60;field a laid 36 59 " + k + ";word a w" + told + ";", 1);
            int high = (1 << k) - 1 << 24 - k;
            check.due("the last ones", x.recode(0, high), 0);
            check.due("their holes", x.coded(1, 0), (long) high << 36);
            check.due("the first ones", x.recode(0, (1 << k) - 1), 1);
            check.due("their holes", x.coded(2, 0), (1L << k) - 1 << 36);
            check.due("one beyond the last", x.recode(0, high << 1), -1);
            check.due("one more", x.recode(0, (1 << k + 1) - 1), -1);
            check.due("one less", x.recode(0, (1 << k - 1) - 1), -1);
            check.due("below 0", x.recode(0, (1 << k - 1) - 1 | 1 << 31), -1);
            check.due("another word", x.recode(1, (1 << k) - 1), -1);
            check.due("another word", x.recode(-1, (1 << k) - 1), -1);
            check.due("notes", x.count(4), 2);
            NotchedCards all = Check.made("holes 60;field a laid 5 " + (4 + k) + " " + k + ";word a w" + told + ";", 1);
            check.due("all holes", all.recode(0, (1 << k) - 1), 0);
            check.due("one beyond them", all.recode(0, (1 << k) - 1 << 1), -1);
        }
    }

    /** "without those STRUCK by one of these": by a strike among the first n alone; a later strike doesn't count. */
    private void strikes() {
        NotchedCards x = Check.made(PLAN, 1);
        check.due("no note", x.strike(0), -1);
        x.tear(0, 0, false);
        x.tear(0, 1, false);
        check.due("a note to come", x.strike(2), -1);
        check.due("note -1", x.strike(-1), -1);
        check.due("the first", x.strike(0), 2);
        check.due("itself", x.strike(3), -1);
        check.due("the last", x.strike(1), 3);
        check.due("the first once more", x.strike(0), 4);
        long[] notched = {0, 1, 3, 2, 0, 0};
        for (int n = 0; n <= 5; n++) {
            check.due("by " + n, x.notched(n, 0), notched[n]);
        }
        x.strike(2);
        check.due("still struck by another", x.notched(6, 0), 0);
        x.strike(4);
        check.due("struck by none", x.notched(7, 0), 1);
        check.due("by 6 still", x.notched(6, 0), 0);
        check.due("by 5 still", x.notched(5, 0), 0);
    }

    /** "(a STRIKE may be STRUCK: then it doesn't count; asked from the last one on)". */
    private void strikesOfStrikes() {
        NotchedCards x = Check.made(PLAN, 1);
        x.tear(0, 0, false);
        for (int i = 0; i < 149; i++) {
            check.due("strike of " + i, x.strike(i), i + 1);
        }
        for (int n = 0; n <= 150; n++) {
            check.due("by " + n, x.notched(n, 0), n == 0 || n % 2 == 0 ? 0 : 1);
        }
        check.due("full", x.strike(149), -1);
        // A strike that is struck itself strikes no strike.
        NotchedCards y = Check.made(PLAN, 1);
        y.tear(0, 0, false);
        y.strike(0);
        y.strike(1);
        y.strike(2);
        y.strike(2);
        long[] notched = {0, 1, 0, 1, 0, 0};
        for (int n = 0; n <= 5; n++) {
            check.due("by " + n, y.notched(n, 0), notched[n]);
        }
    }

    /** Promise 17: "(60 HOLES at most: never below 0.)" */
    private void sixtyHoles() {
        NotchedCards x = Check.made("holes 60;", 1);
        for (int h = 0; h < 60; h++) {
            x.tear(0, h, false);
            check.due("by " + (h + 1), x.notched(h + 1, 0), (1L << h + 1) - 1);
        }
        check.due("hole 60", x.tear(0, 60, false), -1);
        check.due("all", x.drops(0, -1), 1);
        x.turn(0);
        check.due("all, turned", x.drops(0, -1), 1);
        for (int h = 0; h < 60; h++) {
            x.tear(0, h, true);
            check.due("mended " + h, x.notched(61 + h, 0), (1L << 60) - (1L << h + 1));
        }
    }

    /** Promise 31: "NONE for another what." */
    private void counts() {
        NotchedCards x = Check.made(PLAN, 5);
        x.put(0, 0);
        x.strike(0);
        Check.question(x, "iron and not wood");
        Check.work(x, "again 3(pass a to a a by 0;)");
        int[] counts = {30, 4, 3, 5, 2, 4, 3, 4};
        for (int what = 0; what < 8; what++) {
            check.due("count(" + what + ")", x.count(what), counts[what]);
        }
        int[] others = {8, 9, -1, -2, Integer.MAX_VALUE, Integer.MIN_VALUE};
        for (int what : others) {
            check.due("count(" + what + ")", x.count(what), -1);
        }
    }

    /** "An object is used for at most 512 calls": the last one of them answers as the first. */
    private void fiveHundredAndTwelveCalls() {
        NotchedCards x = new NotchedCards();
        check.due("call 1", x.card(), 0);
        for (int call = 2; call <= 511; call++) {
            if (call <= 151) {
                check.due("call " + call, x.tear(0, 9, call % 2 == 0), call - 2);
            } else {
                check.due("call " + call, x.turn(0) ? 1 : 0, 1);
            }
        }
        check.due("call 512", x.drops(0, 512), 1);
    }
}
