/** Terms 4 and promises 5 and 24, sentence by sentence: each limit, and one beyond it. In a faulty text ^ marks the place. */
public final class QuestionLimitsTest {
    private static final String PLAN = "holes 30;field kind one 0 3;field year sums 4;field no pairs 8;field top laid 13 22 2;"
            + "word top iron 0 1;word top wood 2 3;word top clay 1 2;";

    private final Check check = new Check("QuestionLimitsTest");

    public static void main(String[] args) {
        QuestionLimitsTest test = new QuestionLimitsTest();
        test.knotsAreCounted();
        test.fortyKnots();
        test.eightOpen();
        test.valuesOfFields();
        test.names();
        test.moreMustCome();
        test.tokensThatCannotStand();
        test.firstAndLeastFaults();
        test.theOneAheadStays();
        test.theTapesFirstBytes();
        test.andAheadOfOr();
        test.noQuestion();
        test.thirtyCards();
        test.falseAndMissed();
        test.codesByThen();
        test.check.end();
    }

    private void fault(int fault, String marked) {
        NotchedCards x = Check.made(PLAN, 1);
        String text = Check.unmarked(marked);
        check.due(text, Check.question(x, text), -1);
        check.fault(x, text, fault, marked.indexOf('^'));
        check.due(text + ": no question", x.ask(0, 0), -1);
        check.due(text + ": no question", x.count(5), 0);
    }

    private void right(String text, int knots) {
        NotchedCards x = Check.made(PLAN, 1);
        check.due(text, Check.question(x, text), knots);
        check.fault(x, text, 0, -1);
        check.due(text + ": count(5)", x.count(5), knots);
    }

    /** "KNOT (each not, and, or, W)". */
    private void knotsAreCounted() {
        right("iron", 1);
        right("kind = 3", 1);
        right("((iron))", 1);
        right("not iron", 2);
        right("not not iron", 3);
        right("iron and wood", 3);
        right("iron or wood", 3);
        right("not(iron and kind=0)or not clay", 7);
    }

    /** "a 41st KNOT": a word, a value, not, and, or, each at the limit and one beyond it. */
    private void fortyKnots() {
        String row = "iron or ".repeat(18);
        right(row + "iron or iron", 39);
        right(row + "iron or not iron", 40);
        right(row + "not iron or iron", 40);
        right(row + "not not iron", 39);
        right(row + "not not not iron", 40);
        right("not ".repeat(39) + "kind = 3", 40);
        right("not ".repeat(39) + "((((((((iron))))))))", 40);
        fault(2, row + "iron or not not ^not iron");
        fault(2, row + "iron or not not ^iron");
        fault(2, row + "not not not not ^iron");
        fault(2, row + "not not not not ^kind = 3");
        fault(2, row + "not not not not ^kind = 9");
        fault(2, row + "not not not not ^what");
        fault(2, row + "not not not not (^iron)");
        fault(2, row + "not not not not ^not iron");
        fault(2, row + "not not not iron ^and iron");
        fault(2, row + "not not not iron ^or iron");
        fault(2, row + "not not not iron ^or");
        fault(2, row + "not not not kind = 3 ^and");
        fault(2, "(" + row + "not not not iron) ^and");
        fault(2, "not ".repeat(40) + "^iron");
        fault(2, "not ".repeat(40) + "^not iron");
        fault(1, "not ".repeat(40) + "^and");
        fault(1, "not ".repeat(40) + "^");
        fault(1, row + "not not not iron ^iron");
        fault(1, row + "not not not iron ^;");
        fault(1, row + "not not not iron ^)");
    }

    /** "a ninth '(' open". */
    private void eightOpen() {
        for (int open = 0; open <= 8; open++) {
            right("(".repeat(open) + "iron" + ")".repeat(open), 1);
            right("(".repeat(open) + "iron or wood" + ")".repeat(open) + " and " + "(".repeat(open) + "clay" + ")".repeat(open), 5);
            right("not (".repeat(open) + "iron" + ")".repeat(open), 1 + open);
        }
        right("((((((((iron) and (wood)) and (clay)) or (iron)) and iron) or (iron)) and iron) and iron)", 15);
        fault(2, "((((((((^(iron)))))))))");
        fault(2, "((((((((^(");
        fault(2, "(((((((( ^()");
        fault(2, "((((((((iron and ^(wood");
        fault(2, "((((((((iron and wood) or (not ^(clay");
        fault(2, "not (not (not (not (not (not (not (not (not ^(iron");
        fault(1, "((((((((iron ^(");
        fault(1, "((((((((iron))))))))^)");
        fault(1, "((((((((iron)))))))^");
        fault(1, "((((((((^)");
    }

    /** "W = N: a FIELD that isn't laid and a VALUE of it"; "2 also a VALUE that it hasn't". */
    private void valuesOfFields() {
        right("kind = 0", 1);
        right("kind = 3", 1);
        right("year = 0", 1);
        right("year = 9", 1);
        right("no = 0", 1);
        right("no = 9", 1);
        right("no=0009", 1);
        fault(2, "kind = ^4");
        fault(2, "kind = ^5");
        fault(2, "year = ^10");
        fault(2, "no = ^10");
        fault(2, "no = ^99");
        fault(2, "no = ^100");
        fault(2, "no = ^4294967296");
        fault(2, "iron and not (wood or kind = ^4)");
    }

    /** "4 a name that is no WORD, ahead of = none of a FIELD that isn't laid." */
    private void names() {
        fault(4, "^kind");
        fault(4, "^top");
        fault(4, "^what");
        fault(4, "^iro");
        fault(4, "^ironi");
        fault(4, "^iron = 0");
        fault(4, "^top = 0");
        fault(4, "^what = 0");
        fault(4, "^what = 100");
        fault(4, "^what = what");
        fault(4, "^what =");
        fault(4, "^what what");
        fault(4, "iron and ^kind");
        fault(4, "iron and ^kind or");
        fault(4, "iron or (not ^top)");
        fault(4, "iron or (not ^top = 1)");
        fault(4, "(^kind) = 1");
        fault(4, "^a");
    }

    /** "(the length, if more must come)": a question that is broken off behind a token. */
    private void moreMustCome() {
        String[] tokens = "not ( iron or kind = 3 and ( wood ) ) and not clay".split(" ");
        StringBuilder text = new StringBuilder();
        int open = 0;
        for (String token : tokens) {
            text.append(token);
            open += token.equals("(") ? 1 : token.equals(")") ? -1 : 0;
            boolean isWhole = open == 0 && (token.equals(")") || token.equals("clay"));
            if (isWhole) {
                check.due(text.toString(), Check.question(Check.made(PLAN, 1), text.toString()) > 0 ? 1 : 0, 1);
            } else if (token.equals("kind")) {
                fault(4, text.toString().replace("kind", "^kind"));
            } else {
                fault(1, text + "^");
                fault(1, text + " \n^");
            }
            text.append(' ');
        }
        fault(1, "^");
        fault(1, " ^");
        fault(1, "\n\n^");
        fault(1, "iron and^");
        fault(1, "iron or^");
        fault(1, "not^");
        fault(1, "(^");
        fault(1, "kind =^");
        fault(1, "(iron^");
    }

    /** "1 a TOKEN that is none or can't stand there". */
    private void tokensThatCannotStand() {
        String[] never = {";", "#", "abcdefg", "holes", "field", "word", "one", "sums", "pairs", "laid", "pass", "to", "by", "join", "again", "N"};
        String[] tokens = "not ( iron or kind = 3 and ( wood ) ) and not clay".split(" ");
        for (String other : never) {
            StringBuilder text = new StringBuilder();
            for (String token : tokens) {
                if (text.toString().endsWith("kind ")) {
                    fault(4, text.toString().replace("kind", "^kind") + other);
                } else {
                    fault(1, text + "^" + other);
                }
                text.append(token).append(' ');
            }
            fault(1, text + "^" + other);
        }
        fault(1, "^and");
        fault(1, "^or");
        fault(1, "^)");
        fault(1, "^=");
        fault(1, "^0");
        fault(1, "^100");
        fault(1, "iron ^iron");
        fault(1, "iron ^0");
        fault(1, "iron ^not wood");
        fault(1, "iron ^(wood)");
        fault(1, "iron ^)");
        fault(1, "iron and ^and wood");
        fault(1, "iron and ^or wood");
        fault(1, "not ^and iron");
        fault(1, "not ^)");
        fault(1, "(^)");
        fault(1, "(iron ^iron)");
        fault(1, "(iron) ^= 1");
        fault(1, "kind = ^=");
        fault(1, "kind = ^kind");
        fault(1, "kind = ^not");
        fault(1, "kind = ^(3)");
        fault(1, "kind = 3 ^3");
        fault(1, "kind = 3 ^= 3");
        fault(1, "kind = 3 ^iron");
    }

    /** "the first along the text (of one place the least)". */
    private void firstAndLeastFaults() {
        fault(4, "^kind and what");
        fault(2, "kind = ^4 and what");
        fault(1, "iron ^what = 99");
        fault(4, "^what #");
        // 2 and 4 meet at the forty-first knot.
        fault(2, "not ".repeat(40) + "^what");
        fault(2, "not ".repeat(40) + "^kind");
        fault(4, "not ".repeat(39) + "^what");
        fault(2, "not ".repeat(39) + "kind = ^4");
    }

    /** Promise 5: "NONE with a FAULT, the one ahead stays; -2 likewise." */
    private void theOneAheadStays() {
        NotchedCards x = Check.made(PLAN, 2);
        x.put(0, 0);
        x.set(1, 0, 3);
        check.due("a question", Check.question(x, "not iron or kind = 3"), 4);
        String[] wrong = {"", "wood and", "wood wood", "kind = 4", "what", "(((((((((iron", "not ".repeat(41) + "iron"};
        for (String text : wrong) {
            check.due(text, Check.question(x, text), -1);
            check.due(text + ": knots", x.count(5), 4);
            check.due(text + ": by holes", x.ask(2, 0), 2);
            check.due(text + ": truly, known by 0", x.ask(0, 1), 3);
        }
        Check.feed(x, "wood");
        check.due("more than there are", x.question(21), -2);
        check.due("below 0", x.question(-1), -2);
        check.due("knots", x.count(5), 4);
        check.due("by holes", x.ask(2, 0), 2);
        check.due("the tape stays", x.question(4), 1);
        check.due("another one", x.ask(2, 0), 0);
        check.due("work leaves it", Check.work(x, "join a b;"), 0);
        check.due("a plan with a fault leaves it", Check.plan(x, "holes 9;"), -1);
        check.due("knots", x.count(5), 1);
        check.due("a plan takes it", Check.plan(x, PLAN), 8);
        check.due("knots", x.count(5), 0);
        check.due("no question", x.ask(0, 0), -1);
    }

    private void theTapesFirstBytes() {
        NotchedCards x = Check.made(PLAN, 2);
        x.set(0, 1, 1);
        Check.feed(x, "year = 11 ");
        check.due("broken off within a number", x.question(8), 1);
        check.due("it is 1", x.ask(1, 1), 1);
        Check.feed(x, "iron and wood");
        check.due("the first word alone", x.question(4), 1);
        Check.feed(x, "irons");
        check.due("broken off within a word", x.question(4), 1);
        check.due("the tape is empty then", x.question(1), -2);
        Check.feed(x, " ".repeat(496) + "clay");
        check.due("all 500 bytes", x.question(500), 1);
        Check.feed(x, "iron");
        check.due("none of it", x.question(0), -1);
        check.fault(x, "none of it", 1, 0);
        check.due("the tape is empty then", x.feed(0, 0, 0, 0, 0), 20);
    }

    /** "E: A { or A }. A: B { and B }. B: not B": for each way that three words can lie on a card. */
    private void andAheadOfOr() {
        NotchedCards x = Check.made("holes 10;field f laid 0 3 1;word f p 0;word f q 1;word f r 2;", 8);
        for (int c = 0; c < 8; c++) {
            for (int w = 0; w < 3; w++) {
                if ((c >> w & 1) != 0) {
                    x.put(c, w);
                }
            }
        }
        int p = 0b10101010;
        int q = 0b11001100;
        int r = 0b11110000;
        String[] texts = {"p or q and r", "p and q or r", "not p and q", "not p or q", "not (p or q) and r", "p and (q or r)",
            "not not p", "p or q or r", "p and q and r", "p and not q or r and not p", "(p or q) and (q or r)", "not p and not q or not r"};
        int[] due = {p | q & r, p & q | r, ~p & q, ~p | q, ~(p | q) & r, p & (q | r),
            p, p | q | r, p & q & r, p & ~q | r & ~p, (p | q) & (q | r), ~p & ~q | ~r};
        for (int i = 0; i < texts.length; i++) {
            check.due(texts[i], Check.question(x, texts[i]) > 0 ? 1 : 0, 1);
            for (int what = 0; what < 4; what++) {
                check.due(texts[i] + ", what " + what, x.ask(x.count(4), what), what < 2 ? due[i] & 255 : 0);
            }
        }
    }

    /** Promise 24: "NONE: no QUESTION, no such ones." */
    private void noQuestion() {
        NotchedCards x = Check.made(PLAN, 1);
        for (int what = 0; what < 4; what++) {
            check.due("no question", x.ask(0, what), -1);
        }
        x.put(0, 0);
        check.due("a question", Check.question(x, "iron"), 1);
        for (int what = 0; what < 4; what++) {
            check.due("known by 0, what " + what, x.ask(0, what), 0);
            check.due("known by 1, what " + what, x.ask(1, what), what < 2 ? 1 : 0);
            check.due("known by 2, what " + what, x.ask(2, what), -1);
            check.due("known by -1, what " + what, x.ask(-1, what), -1);
        }
        check.due("what 4", x.ask(1, 4), -1);
        check.due("what -1", x.ask(1, -1), -1);
        NotchedCards none = Check.made(PLAN, 0);
        check.due("a question without cards", Check.question(none, "not iron"), 2);
        for (int what = 0; what < 4; what++) {
            check.due("no cards, what " + what, none.ask(0, what), 0);
        }
    }

    /** Bits of thirty cards. */
    private void thirtyCards() {
        NotchedCards x = Check.made(PLAN, 30);
        check.due("a question", Check.question(x, "not iron"), 2);
        check.due("all, by holes", x.ask(0, 0), (1 << 30) - 1);
        check.due("all, truly", x.ask(0, 1), (1 << 30) - 1);
        x.put(29, 0);
        x.put(0, 0);
        check.due("all but two, by holes", x.ask(2, 0), (1 << 29) - 2);
        check.due("all but two, truly", x.ask(2, 1), (1 << 29) - 2);
        check.due("a question", Check.question(x, "iron or wood"), 3);
        check.due("two, by holes", x.ask(2, 0), 1 << 29 | 1);
        check.due("two, truly", x.ask(2, 1), 1 << 29 | 1);
    }

    /** "FALSE: BY HOLES, not TRULY; MISSED: the other way round." */
    private void falseAndMissed() {
        NotchedCards x = Check.made(PLAN, 4);
        x.put(0, 0);
        x.tear(1, 13, false);
        x.tear(1, 14, false);
        x.put(2, 0);
        x.tear(2, 14, true);
        check.due("a question", Check.question(x, "iron"), 1);
        int[] due = {3, 5, 2, 4};
        for (int what = 0; what < 4; what++) {
            check.due("iron, what " + what, x.ask(5, what), due[what]);
        }
        check.due("a question", Check.question(x, "not iron"), 2);
        int[] not = {12, 10, 4, 2};
        for (int what = 0; what < 4; what++) {
            check.due("not iron, what " + what, x.ask(5, what), not[what]);
        }
        // A value is by holes what any set, or a torn hole, has notched; truly the latest one.
        NotchedCards y = Check.made(PLAN, 2);
        y.set(0, 1, 3);
        y.set(0, 1, 4);
        check.due("a question", Check.question(y, "year = 3"), 1);
        int[] early = {1, 1, 0, 0};
        int[] later = {1, 0, 1, 0};
        for (int what = 0; what < 4; what++) {
            check.due("year 3, known by 1, what " + what, y.ask(1, what), early[what]);
            check.due("year 3, known by 2, what " + what, y.ask(2, what), later[what]);
        }
        check.due("a question", Check.question(y, "year = 0"), 1);
        check.due("no hole at all is notched on any card", y.ask(2, 0), 3);
        check.due("but none has it truly", y.ask(2, 1), 0);
        y.set(1, 1, 0);
        check.due("but one then", y.ask(3, 1), 2);
    }

    /** "NOTCHED at all HOLES of the CODE that it has by then". */
    private void codesByThen() {
        NotchedCards x = Check.made(PLAN, 2);
        check.due("a question", Check.question(x, "iron"), 1);
        x.put(0, 0);
        x.recode(0, 3 << 8);
        x.put(1, 0);
        x.strike(1);
        x.strike(3);
        int[] byHoles = {0, 1, 0, 2, 3, 2};
        int[] truly = {0, 1, 1, 3, 3, 3};
        for (int n = 0; n <= 5; n++) {
            check.due("by holes, known by " + n, x.ask(n, 0), byHoles[n]);
            check.due("truly, known by " + n, x.ask(n, 1), truly[n]);
            check.due("false, known by " + n, x.ask(n, 2), byHoles[n] & ~truly[n]);
            check.due("missed, known by " + n, x.ask(n, 3), truly[n] & ~byHoles[n]);
        }
    }
}
