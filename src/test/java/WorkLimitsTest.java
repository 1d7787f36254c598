/** Terms 3 and promises 4, 19 to 23, sentence by sentence: each limit, and one beyond it. In a faulty text ^ marks the place. */
public final class WorkLimitsTest {
    private static final String PLAN = "holes 20;field a laid 0 5 2;word a b 0 1;word a iron 4 5;field kind one 10 12;field k sums 16;";
    private static final String[] LANGUAGE = {"holes", "field", "word", "one", "sums", "pairs", "laid",
        "pass", "to", "by", "join", "again", "not", "and", "or"};

    private final Check check = new Check("WorkLimitsTest");

    public static void main(String[] args) {
        WorkLimitsTest test = new WorkLimitsTest();
        test.packsFromAToF();
        test.newCardsComeBehindA();
        test.turnedOver();
        test.atEachOfThesePlaces();
        test.byAllNotes();
        test.noWork();
        test.wordsOfOneLetter();
        test.holesOfNeedles();
        test.namesOfNeedles();
        test.timesOfAgain();
        test.theFirstPackIsEmptyAheadOfThat();
        test.joinOfUnlikeOnes();
        test.fiveOpen();
        test.fortySteps();
        test.threeThousandDone();
        test.spentWithinAgain();
        test.moreMustCome();
        test.tokensThatCannotStand();
        test.theFirstFaultAlongTheText();
        test.faultsInWorkThatIsNeverDone();
        test.theTapesFirstBytes();
        test.dropsByHand();
        test.gathered();
        test.passesAndStepsOfTheLatest();
        test.check.end();
    }

    private static NotchedCards made(int cards) {
        return Check.made(PLAN, cards);
    }

    private void fault(int fault, String marked) {
        NotchedCards x = made(2);
        String text = Check.unmarked(marked);
        check.due(text, Check.work(x, text), -1);
        check.fault(x, text, fault, marked.indexOf('^'));
        check.dueRow(text + ": nothing is done", x, 0, "0 1");
        check.due(text + ": nothing is done", x.count(7), 0);
    }

    private void done(NotchedCards x, String text, int answer, int passes, int steps) {
        check.due(text, Check.work(x, text), answer);
        check.fault(x, text, 0, -1);
        check.due(text + ": passes", x.count(6), passes);
        check.due(text + ": S", x.count(7), steps);
    }

    /** "PACKS a .. f (0 .. 5)"; "P: a letter a .. f". */
    private void packsFromAToF() {
        NotchedCards x = made(1);
        String packs = "abcdef";
        for (int p = 1; p < 6; p++) {
            done(x, "join " + packs.charAt(p - 1) + " " + packs.charAt(p) + ";", 0, 0, 1);
            check.due("the card is there", x.pack(p, 0), 0);
            check.due("not where it was", x.pack(p - 1, 0), -1);
            check.due("drops of pack " + p, x.drops(p, 0), 1);
        }
        done(x, "pass f to e d by 0;", 0, 1, 1);
        check.due("lifted", x.pack(3, 0), 0);
        String[] none = {"g", "z", "ab", "fa", "aa", "kind", "iron", "0", "1", "5", ";", "(", "abcdefg"};
        for (String other : none) {
            fault(1, "join ^" + other + " b;");
            fault(1, "join a ^" + other + ";");
            fault(1, "pass ^" + other + " to b c by 1;");
            fault(1, "pass a to ^" + other + " c by 1;");
            fault(1, "pass a to b ^" + other + " by 1;");
        }
        int[] noPacks = {-1, 6, 7, Integer.MAX_VALUE, Integer.MIN_VALUE};
        for (int pack : noPacks) {
            check.due("pack(" + pack + ", 0)", x.pack(pack, 0), -1);
            check.due("drops(" + pack + ", 0)", x.drops(pack, 0), -1);
            check.due("behind(" + pack + ", 1)", x.behind(pack, 1), -1);
            check.due("sort(" + pack + ", 1, 0)", x.sort(pack, 1, 0), -1);
        }
        for (int pack = 0; pack < 6; pack++) {
            check.due("behind(" + pack + ", 1)", x.behind(pack, 1), 0);
            check.due("sort(" + pack + ", 1, 0)", x.sort(pack, 1, 0), 0);
        }
    }

    /** "a new CARD comes behind pack a"; promise 11: "NONE: there are 30"; promise 21. */
    private void newCardsComeBehindA() {
        NotchedCards x = made(2);
        done(x, "pass a to b f by 0;join f a;", 0, 1, 2);
        check.due("card()", x.card(), 2);
        check.dueRow("behind pack a", x, 0, "0 1 2");
        done(x, "join a f;", 0, 0, 1);
        check.due("card()", x.card(), 3);
        check.dueRow("behind an empty pack a", x, 0, "3");
        for (int c = 4; c < 30; c++) {
            check.due("card()", x.card(), c);
        }
        check.due("a 31st", x.card(), -1);
        check.due("CARD 26 of pack a", x.pack(0, 26), 29);
        check.due("CARD 27 of pack a", x.pack(0, 27), -1);
        done(x, "join a f;", 0, 0, 1);
        check.due("all thirty in one pack", x.pack(5, 29), 29);
        check.due("none behind", x.pack(5, 30), -1);
        check.due("still no 31st", x.card(), -1);
        done(x, "pass f to f f by 0;pass f to e e by 0;pass e to a f by 19;", 0, 3, 3);
        check.due("all thirty again", x.pack(5, 29), 29);
        check.due("all thirty drop", x.drops(5, 0), (1 << 30) - 1);
    }

    /** "A CARD may be TURNED over: HOLE h is then where N less 1 less h is."; promises 19 and 20. */
    private void turnedOver() {
        int[] sizes = {10, 11, 59, 60};
        for (int n : sizes) {
            NotchedCards x = Check.made("holes " + n + ";", 2);
            int[] holes = {0, 1, n / 2, n - 2, n - 1};
            for (int h : holes) {
                int note = x.tear(1, h, false);
                x.turn(1);
                for (int place = 0; place < n; place += place < 3 || place >= n - 4 ? 1 : n / 4) {
                    int due = place == n - 1 - h ? 2 : 0;
                    check.due(n + " holes, " + h + " torn, at " + place, x.drops(0, 1L << place), due);
                }
                check.due("at its mirror", x.drops(0, 1L << n - 1 - h), 2);
                check.due("notched as ever", x.notched(note + 1, 1), 1L << h);
                x.turn(1);
                check.due("turned back", x.drops(0, 1L << h), 2);
                x.strike(note);
            }
        }
        NotchedCards all = Check.made("holes 60;", 30);
        for (int c = 0; c < 30; c++) {
            check.due("turn(" + c + ")", all.turn(c) ? 1 : 0, 1);
            check.due("turned", all.turned(), (1 << c + 1) - 1);
        }
        check.due("turn(30)", all.turn(30) ? 1 : 0, 0);
        check.due("turn(-1)", all.turn(-1) ? 1 : 0, 0);
        check.due("turn(29) back", all.turn(29) ? 1 : 0, 1);
        check.due("turned", all.turned(), (1 << 29) - 1);
        NotchedCards none = Check.made("holes 60;", 0);
        check.due("turn(0) without cards", none.turn(0) ? 1 : 0, 0);
        check.due("turned without cards", none.turned(), 0);
        NotchedCards passed = Check.made("holes 10;", 2);
        passed.tear(0, 0, false);
        passed.tear(1, 9, false);
        passed.turn(1);
        check.due("a pass", Check.work(passed, "pass a to b c by 0;"), 0);
        check.dueRow("a turned card drops by its place", passed, 1, "0 1");
        check.due("turned, it stays so", passed.turned(), 2);
        check.due("a pass", Check.work(passed, "pass b to a c by 9;"), 0);
        check.dueRow("none drops", passed, 2, "0 1");
    }

    /** "a CARD DROPS if at each of these places it is NOTCHED, else it is LIFTED." */
    private void atEachOfThesePlaces() {
        NotchedCards x = made(4);
        int[][] torn = {{3}, {3, 7}, {7}, {3, 7, 19}};
        for (int c = 0; c < torn.length; c++) {
            for (int hole : torn[c]) {
                x.tear(c, hole, false);
            }
        }
        done(x, "pass a to b c by 3 7;", 0, 1, 1);
        check.dueRow("at each", x, 1, "1 3");
        check.dueRow("not at each", x, 2, "0 2");
        x.gather();
        done(x, "pass a to b c by 3 7 19;", 0, 1, 1);
        check.dueRow("at all three", x, 1, "3");
        check.dueRow("not at all three", x, 2, "0 1 2");
        x.gather();
        done(x, "pass a to b c by 7 7 7;", 0, 1, 1);
        check.dueRow("one place thrice", x, 1, "1 2 3");
        x.gather();
        // As many needles as a tape can tell.
        String many = "pass a to b c by" + " 3 7".repeat(120) + ";";
        check.due("the longest row of needles", many.length(), 497);
        done(x, many, 0, 1, 1);
        check.dueRow("the longest row of needles", x, 1, "1 3");
        x.gather();
        done(x, "pass a to b c by" + " 3".repeat(239) + " 19;", 0, 1, 1);
        check.dueRow("the last needle counts, too", x, 1, "3");
    }

    /** "A PASS of NEEDLES through HOLES, by all NOTES"; "all HOLES of its CODE by then, by all NOTES". */
    private void byAllNotes() {
        NotchedCards x = made(2);
        x.put(0, 1);
        x.recode(1, 3);
        x.put(1, 1);
        done(x, "pass a to b c by iron;", 0, 1, 1);
        check.dueRow("by the code of then", x, 1, "1");
        x.gather();
        x.strike(1);
        done(x, "pass a to b c by iron;", 0, 1, 1);
        check.dueRow("by the code told in the plan", x, 1, "0 1");
        x.gather();
        x.strike(3);
        done(x, "pass a to b c by iron;", 0, 1, 1);
        check.dueRow("the strike is struck", x, 1, "1");
        x.gather();
        x.strike(2);
        done(x, "pass a to b c by iron;", 0, 1, 1);
        check.dueRow("the put is struck", x, 1, "");
    }

    /** "WORK, a TEXT: { S }." */
    private void noWork() {
        NotchedCards x = made(1);
        done(x, "", 0, 0, 0);
        done(x, " \n", 0, 0, 0);
        done(x, "again 0()", 0, 0, 1);
        done(x, "again 99()", 0, 0, 1);
        fault(1, "^;");
        fault(1, "join a b;^;");
        fault(1, "^)");
        fault(1, "^()");
        check.due("the cards lie as they lay", x.pack(0, 0), 0);
    }

    /** "Words that are one letter are P, but behind by." */
    private void wordsOfOneLetter() {
        NotchedCards x = made(3);
        x.put(1, 0);
        x.tear(2, 3, false);
        done(x, "pass a to b c by b;", 0, 1, 1);
        check.dueRow("b is the word", x, 1, "1");
        x.gather();
        done(x, "pass a to a b by a 3;join a f;", 0, 1, 2);
        check.dueRow("a is the field", x, 5, "2");
        fault(4, "pass a to b c by ^c;");
        fault(4, "pass a to b c by 1 ^f;");
        fault(4, "pass a to b c by ^z;");
        fault(1, "pass a to b c by k^;");
        fault(1, "pass ^k to b c by 1;");
    }

    /** "H: N (a HOLE) | W N (of a FIELD: its HOLE, from 0 on)": the last one, and one beyond it. */
    private void holesOfNeedles() {
        NotchedCards x = made(2);
        x.tear(0, 19, false);
        x.tear(0, 12, false);
        x.tear(0, 5, false);
        String[] last = {"0", "19", "a 0", "a 5", "kind 0", "kind 2", "k 0", "k 3"};
        String[] dropped = {"", "0", "", "0", "", "0", "", "0"};
        for (int i = 0; i < last.length; i++) {
            x.gather();
            done(x, "pass a to b c by " + last[i] + ";", 0, 1, 1);
            check.dueRow("by " + last[i], x, 1, dropped[i]);
        }
        fault(2, "pass a to b c by ^20;");
        fault(2, "pass a to b c by ^99;");
        fault(2, "pass a to b c by ^100;");
        fault(2, "pass a to b c by 0 ^4294967296;");
        fault(2, "pass a to b c by a ^6;");
        fault(2, "pass a to b c by a 5 a ^6;");
        fault(2, "pass a to b c by kind ^3;");
        fault(2, "pass a to b c by k ^4;");
        fault(2, "pass a to b c by k ^100;");
        fault(1, "pass a to b c by a ^;");
        fault(1, "pass a to b c by a ^a 1;");
        fault(1, "pass a to b c by kind ^b;");
        fault(2, "pass a to b c by b ^20;");
    }

    /** "4 a name that is none of a FIELD or WORD." */
    private void namesOfNeedles() {
        fault(4, "pass a to b c by ^x;");
        fault(4, "pass a to b c by ^x 1;");
        fault(4, "pass a to b c by ^iro;");
        fault(4, "pass a to b c by ^ironi;");
        fault(4, "pass a to b c by ^kinds 0;");
        fault(4, "pass a to b c by iron b 3 a 1 ^ab;");
        fault(1, "pass a to b c by ^abcdefg;");
        fault(1, "pass a to b c by^;");
        fault(1, "pass a to b c by ^(;");
        for (String word : LANGUAGE) {
            fault(1, "pass a to b c by ^" + word + ";");
            fault(1, "pass a to b c by 1 ^" + word + ";");
            fault(1, "pass a to b c by a ^" + word + ";");
        }
    }

    /** "N of again 0 .. 99." */
    private void timesOfAgain() {
        NotchedCards x = made(1);
        int[] times = {0, 1, 2, 98, 99};
        for (int n : times) {
            done(x, "again " + n + "(join a b;pass b to a a by 0;)", 0, n, 1 + 2 * n);
        }
        done(x, "again 0099(join a b;)", 0, 0, 100);
        fault(2, "again ^100()");
        fault(2, "again ^101(join a b;)");
        fault(2, "again ^4294967297(join a b;)");
        fault(1, "again ^()");
        fault(1, "again ^a()");
        fault(1, "again 1 ^1()");
    }

    /** "(the first one is empty ahead of that)": packs named twice in a pass. */
    private void theFirstPackIsEmptyAheadOfThat() {
        String[] works = {"pass a to a b by 3;", "pass a to b a by 3;", "pass a to a a by 3;", "pass a to b b by 3;", "pass a to b c by 3;"};
        String[] inA = {"1 3", "0 2 4", "0 1 2 3 4", "", ""};
        String[] inB = {"5 0 2 4", "5 1 3", "5", "5 0 1 2 3 4", "5 1 3"};
        for (int i = 0; i < works.length; i++) {
            NotchedCards x = made(5);
            x.tear(1, 3, false);
            x.tear(3, 3, false);
            check.due("ahead", Check.work(x, "join a f;"), 0);
            x.card();
            check.due("ahead", Check.work(x, "join a b;join f a;"), 0);
            done(x, works[i], 0, 1, 1);
            check.dueRow(works[i], x, 0, inA[i]);
            check.dueRow(works[i], x, 1, inB[i]);
        }
    }

    /** "join: all CARDS of the first behind the second (unlike ones)"; "3 the same PACK twice in join (at the second one)". */
    private void joinOfUnlikeOnes() {
        for (char pack = 'a'; pack <= 'f'; pack++) {
            fault(3, "join " + pack + " ^" + pack + ";");
            fault(3, "join a b;join " + pack + "  ^" + pack);
        }
        NotchedCards x = made(3);
        x.tear(1, 3, false);
        done(x, "pass a to b c by 3;join c b;", 0, 1, 2);
        check.dueRow("behind the second", x, 1, "1 0 2");
        check.dueRow("the first one is empty", x, 2, "");
        done(x, "join c b;join d c;", 0, 0, 2);
        check.dueRow("of an empty one", x, 1, "1 0 2");
        NotchedCards full = made(30);
        done(full, "join a b;join b f;", 0, 0, 2);
        check.due("thirty cards", full.pack(5, 29), 29);
    }

    /** "2 also a sixth '(' open". */
    private void fiveOpen() {
        String open = "again 1(";
        NotchedCards x = made(1);
        for (int depth = 1; depth <= 5; depth++) {
            done(x, open.repeat(depth) + "pass a to a a by 0;" + ")".repeat(depth), 0, 1, depth + 1);
            done(x, open.repeat(depth) + ")".repeat(depth), 0, 0, depth);
        }
        done(x, "again 2(again 2(again 2(again 2(again 2(join a b;)))))", 0, 0, 1 + 2 + 4 + 8 + 16 + 32);
        done(x, open.repeat(5) + ")" + open + ")" + ")".repeat(4), 0, 0, 6);
        done(x, (open.repeat(5) + ")".repeat(5)).repeat(6), 0, 0, 30);
        fault(2, open.repeat(5) + "again 1^(");
        fault(2, open.repeat(5) + "again 1 ^()" + ")".repeat(5));
        fault(2, open.repeat(5) + "join a b;again 99^(");
        fault(2, open.repeat(5) + ")" + open + "again 0^(");
        fault(1, open.repeat(5) + "^(");
        fault(1, open.repeat(5) + "again 1 ^)");
        fault(1, open.repeat(5) + ")".repeat(5) + "^)");
        fault(1, open.repeat(5) + ")".repeat(4) + "^");
    }

    /** "a 41st S (at its word)": all that are told count, within again and behind it. */
    private void fortySteps() {
        String two = "join a b;join b a;";
        NotchedCards x = made(1);
        done(x, two.repeat(19) + "join a b;join b c;", 0, 0, 40);
        check.dueRow("the fortieth is done", x, 2, "0");
        done(x, two.repeat(19) + "join c b;pass b to d e by 1;", 0, 1, 40);
        check.dueRow("the fortieth is done", x, 4, "0");
        done(x, "again 0()".repeat(40), 0, 0, 40);
        done(x, two.repeat(19) + "again 1(join e a;)", 0, 0, 40);
        check.dueRow("the fortieth is done", x, 0, "0");
        done(x, "again 2(" + two.repeat(19) + "join a b;)", 0, 0, 1 + 2 * 39);
        fault(2, two.repeat(20) + "^join a b;");
        fault(2, two.repeat(20) + "^join");
        fault(2, two.repeat(20) + "^pass a to a a by 1;");
        fault(2, two.repeat(20) + "^again 1()");
        fault(2, "again 0(" + two.repeat(19) + "join a b;^join b a;)");
        fault(2, "again 1(" + two.repeat(19) + "again 1(^join b a;))");
        fault(2, "again 1(" + two.repeat(19) + "join a b;)^again 0()");
        fault(2, "again 1(again 1(again 1(again 1(again 1(" + "join a b;".repeat(35) + "^join a b;)))))");
        fault(1, two.repeat(20) + "^to");
        fault(1, two.repeat(20) + "^x");
        fault(1, two.repeat(20) + "^;");
        fault(1, two.repeat(20) + "^)");
    }

    /** "SPENT, and ends, ahead of an S with which more than 3000 would be done (again is one each time)." */
    private void threeThousandDone() {
        // 1 + 29 * 100 and 1 + 98.
        String most = "again 29(again 99(pass a to a a by 0;))again 98(pass a to a a by 0;)";
        NotchedCards x = made(2);
        done(x, most, 0, 29 * 99 + 98, 3000);
        done(x, most + "again 0()", 1, 29 * 99 + 98, 3000);
        done(x, most + "join a b;", 1, 29 * 99 + 98, 3000);
        check.dueRow("the join isn't done", x, 0, "0 1");
        done(x, most + "pass a to b b by 0;", 1, 29 * 99 + 98, 3000);
        check.dueRow("the pass isn't done", x, 0, "0 1");
        String less = "again 29(again 99(pass a to a a by 0;))again 97(pass a to a a by 0;)";
        done(x, less, 0, 29 * 99 + 97, 2999);
        done(x, less + "join a b;", 0, 29 * 99 + 97, 3000);
        check.dueRow("the join is done", x, 1, "0 1");
        done(x, less + "join b c;join c d;", 1, 29 * 99 + 97, 3000);
        check.dueRow("the first join is done, the second isn't", x, 2, "0 1");
        done(x, less + "again 99()", 0, 29 * 99 + 97, 3000);
        done(x, less + "again 1(join c d;)", 1, 29 * 99 + 97, 3000);
        check.dueRow("the again is done, what it holds isn't", x, 2, "0 1");
        done(x, "join c a;", 0, 0, 1);
        // Again is one each time that it is done, not for each round that it makes.
        done(x, "again 99(again 29())", 0, 0, 100);
        done(x, "again 99(again 99(again 0()))", 1, 0, 3000);
    }

    /** It ends, whatever is open; what was done stays. */
    private void spentWithinAgain() {
        NotchedCards x = made(3);
        x.tear(2, 3, false);
        done(x, "again 99(again 99(pass a to b a by 3;join b a;))join a f;", 1, 1492, 3000);
        check.dueRow("what stands behind isn't done", x, 5, "");
        // 1 and fifteen rounds of 199 are 2986; then again, and thirteen S: the last one is a pass.
        check.dueRow("what was done stays", x, 1, "2");
        check.dueRow("what was done stays", x, 0, "0 1");
        done(x, "join b a;", 0, 0, 1);
        check.dueRow("and work goes on", x, 0, "0 1 2");
        done(x, "again 99(again 99(again 99(again 99(again 99()))))", 1, 0, 3000);
    }

    /** "(the length, if more must come)": work that is broken off behind a token. */
    private void moreMustCome() {
        String[] tokens = "pass a to b c by 1 kind 2 iron ; again 2 ( join b a ; again 0 ( ) ) join c a ;".split(" ");
        StringBuilder text = new StringBuilder();
        int open = 0;
        for (String token : tokens) {
            text.append(token);
            open += token.equals("(") ? 1 : token.equals(")") ? -1 : 0;
            if (open == 0 && (token.equals(";") || token.equals(")"))) {
                check.due(text.toString(), Check.work(made(2), text.toString()), 0);
                check.due(text + " \n", Check.work(made(2), text + " \n"), 0);
            } else {
                fault(1, text + "^");
                fault(1, text + "\n ^");
            }
            text.append(' ');
        }
    }

    /** "1 a TOKEN that is none or can't stand there". */
    private void tokensThatCannotStand() {
        String[] tokens = "pass a to b c by 1 kind 2 iron ; again 2 ( join b a ; ) join c a ;".split(" ");
        String[] never = {"=", "#", "abcdefg", "holes", "field", "word", "one", "sums", "pairs", "laid", "not", "and", "or", "P", "\t"};
        for (String other : never) {
            StringBuilder text = new StringBuilder();
            for (String token : tokens) {
                fault(1, text + "^" + other + " ");
                text.append(token).append(' ');
            }
            fault(1, text + "^" + other);
        }
        // A word that begins an S can't stand within one.
        String[] begins = {"pass", "join", "again"};
        for (String other : begins) {
            String[] within = {"pass ", "pass a ", "pass a to ", "pass a to b ", "pass a to b c ", "pass a to b c by ", "pass a to b c by 1 ",
                "pass a to b c by kind ", "join ", "join a ", "join a b ", "again ", "again 1 "};
            for (String ahead : within) {
                fault(1, ahead + "^" + other + " a b;");
                fault(1, ahead + "^" + other + " a to b c by 1;");
                fault(1, ahead + "^" + other + " 1()");
            }
        }
        fault(1, "^a");
        fault(1, "^1");
        fault(1, "^100");
        fault(1, "join a b;^a");
        fault(1, "join a b;^1");
        fault(1, "again 1(^a)");
        fault(1, "again 1(^1)");
        fault(1, "again 1(^;)");
        fault(1, "again 1()^;");
        fault(1, "pass a ^b c by 1;");
        fault(1, "pass a ^by 1;");
        fault(1, "pass a to b ^by 1;");
        fault(1, "pass a to b c ^1;");
        fault(1, "pass a to b c ^d by 1;");
        fault(1, "join a b ^c;");
        fault(1, "join a ^;");
        fault(1, "join ^;");
    }

    /** "FAULTS as above": the first along the text. */
    private void theFirstFaultAlongTheText() {
        fault(3, "join a ^a;join b b;");
        fault(3, "join a ^a #");
        fault(1, "join ^g g;");
        fault(4, "pass a to b c by ^x 99;join a a;");
        fault(2, "pass a to b c by ^99 x;");
        fault(2, "again ^100(join a a;)");
        fault(1, "again 1 ^join a a;");
    }

    /** Work of again 0 is read as any other. */
    private void faultsInWorkThatIsNeverDone() {
        fault(3, "again 0(join a ^a;)");
        fault(2, "again 0(pass a to b c by ^20;)");
        fault(4, "again 0(pass a to b c by ^x;)");
        fault(1, "again 0(join a b;^");
    }

    /** "They are WORK": the tape's first n bytes, no byte behind them, and the tape is empty then. */
    private void theTapesFirstBytes() {
        NotchedCards x = made(3);
        x.tear(2, 1, false);
        String text = "pass a to b c by 12;";
        Check.feed(x, text);
        check.due("broken off within a number", x.work(18), -1);
        check.fault(x, "broken off within a number", 1, 18);
        Check.feed(x, "join a b;join b c;  ");
        check.due("the first S alone", x.work(9), 0);
        check.dueRow("the first S alone", x, 1, "0 1 2");
        check.due("the tape is empty then", x.work(1), -2);
        Check.feed(x, "joins");
        check.due("broken off within a word", x.work(4), -1);
        check.fault(x, "broken off within a word", 1, 4);
        Check.feed(x, "join a b;");
        check.due("none of it", x.work(0), 0);
        check.due("S", x.count(7), 0);
        check.due("the tape is empty then", x.feed(0, 0, 0, 0, 0), 20);
        NotchedCards full = made(1);
        Check.feed(full, " ".repeat(491) + "join a b;");
        check.due("all 500 bytes", full.work(500), 0);
        check.dueRow("all 500 bytes", full, 1, "0");
        Check.feed(full, ")".repeat(500));
        check.due("500 tokens", full.work(500), -1);
        check.fault(full, "500 tokens", 1, 0);
        Check.feed(full, "(".repeat(500));
        check.due("500 tokens", full.question(500), -1);
        check.fault(full, "500 tokens", 2, 8);
        Check.feed(full, " ".repeat(499) + "1");
        check.due("a number at the end", full.work(500), -1);
        check.fault(full, "a number at the end", 1, 499);
    }

    /** Promise 22: "(bits; those beyond aren't looked at), as bits of CARDS; nothing is moved. NONE: no such PACK." */
    private void dropsByHand() {
        int[] sizes = {10, 59, 60};
        for (int n : sizes) {
            NotchedCards x = Check.made("holes " + n + ";", 30);
            x.tear(0, n - 1, false);
            x.tear(29, n - 1, false);
            x.tear(29, 0, false);
            check.due("the last hole", x.drops(0, 1L << n - 1), 1 << 29 | 1);
            check.due("both", x.drops(0, 1L << n - 1 | 1), 1 << 29);
            check.due("a bit beyond alone", x.drops(0, 1L << n), (1 << 30) - 1);
            check.due("all bits beyond", x.drops(0, -1L << n), (1 << 30) - 1);
            check.due("bits beyond, too", x.drops(0, -1L << n | 1), 1 << 29);
            check.due("the highest bit", x.drops(0, Long.MIN_VALUE | 1L << n - 1), 1 << 29 | 1);
            check.due("all bits", x.drops(0, -1L), 0);
            check.due("no needle", x.drops(0, 0), (1 << 30) - 1);
            check.due("an empty pack", x.drops(5, 0), 0);
            check.due("nothing is moved", x.pack(0, 29), 29);
            check.due("no pass is counted", x.count(6), 0);
        }
        NotchedCards none = new NotchedCards();
        check.due("no cards", none.drops(0, 0), 0);
        check.due("no such pack", none.drops(6, 0), -1);
        check.due("no such pack", none.drops(-1, 0), -1);
    }

    /** Promise 23: "All CARDS are in PACK a by their numbers, none TURNED: how many there are." */
    private void gathered() {
        check.due("no cards", new NotchedCards().gather(), 0);
        for (char pack = 'a'; pack <= 'f'; pack++) {
            NotchedCards x = made(30);
            x.tear(7, 3, false);
            check.due("work", Check.work(x, "pass a to b c by 3;join c b;" + (pack == 'b' ? "" : "join b " + pack + ";")), 0);
            x.turn(0);
            x.turn(29);
            check.due("gather", x.gather(), 30);
            check.due("none turned", x.turned(), 0);
            for (int k = 0; k < 30; k++) {
                check.due("by their numbers", x.pack(0, k), k);
            }
            check.due("no more", x.pack(0, 30), -1);
            for (int other = 1; other < 6; other++) {
                check.due("none elsewhere", x.pack(other, 0), -1);
            }
            check.due("notes stay", x.count(4), 1);
        }
    }

    /** Promise 31: "6 passes done by the latest WORK that was done or SPENT, 7 its S done." */
    private void passesAndStepsOfTheLatest() {
        NotchedCards x = made(1);
        check.due("no work: passes", x.count(6), 0);
        check.due("no work: S", x.count(7), 0);
        done(x, "again 2(pass a to a a by 0;join a b;join b a;)", 0, 2, 7);
        check.due("with a fault", Check.work(x, "join a b;pass a to b c by 20;"), -1);
        check.due("with a fault: passes", x.count(6), 2);
        check.due("with a fault: S", x.count(7), 7);
        check.due("-2", x.work(1), -2);
        check.due("-2: passes", x.count(6), 2);
        check.due("-2: S", x.count(7), 7);
        done(x, "again 99(again 99(pass a to a a by 0;))", 1, 2969, 3000);
        check.due("with a fault", Check.work(x, "x"), -1);
        check.due("with a fault: passes", x.count(6), 2969);
        check.due("with a fault: S", x.count(7), 3000);
        done(x, "", 0, 0, 0);
    }
}
