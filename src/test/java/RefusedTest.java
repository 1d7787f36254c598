import java.util.function.ToLongFunction;

/** Of each call that is refused: what it answers, and that all stays as it was. */
public final class RefusedTest {
    private static final String PLAN = "holes 12;field kind one 0 2;field topic laid 4 9 2;word topic iron 0 1;word topic wood 4 5;";
    private static final int FEWEST = Integer.MIN_VALUE;
    private static final int MOST = Integer.MAX_VALUE;

    private final Check check = new Check("RefusedTest");

    public static void main(String[] args) {
        RefusedTest test = new RefusedTest();
        test.notThatMany();
        test.faultyTexts();
        test.wrongNotes();
        test.aFullRow();
        test.lookingOnly();
        test.wrongLooks();
        test.check.end();
    }

    /** Cards in two packs, one turned over, notes of all kinds, a question, work that was done, a tape of forty bytes. */
    private static NotchedCards made() {
        NotchedCards x = Check.made(PLAN, 3);
        x.set(0, 0, 2);
        x.put(1, 0);
        x.recode(0, 48);
        x.tear(2, 9, false);
        x.strike(2);
        x.turn(1);
        Check.question(x, "iron or kind = 2");
        Check.work(x, "join a b;pass b to c a by 2;");
        Check.feed(x, "pass a to b c by 3;join a d;again 2()   ");
        return x;
    }

    /** The call answers what is due, nothing that can be seen is changed, nor the fault, nor the tape. */
    private void refused(String name, ToLongFunction<NotchedCards> call, long want) {
        NotchedCards x = made();
        String ahead = Seen.of(x);
        check.due(name, call.applyAsLong(x), want);
        check.dueText(name + ": all stays", Seen.of(x), ahead);
        check.fault(x, name + ": the fault stays", 0, -1);
        check.due(name + ": the tape stays", x.feed(0, 0, 0, 0, 0), 60);
        check.due(name + ": the tape stays", x.work(40), 0);
        check.due(name + ": the tape's first bytes", x.count(7), 3);
    }

    /** Promises 3 to 5: -2, and the tape stays. */
    private void notThatMany() {
        int[] wrong = {41, 42, 500, 501, MOST, -1, -2, -40, FEWEST};
        for (int n : wrong) {
            refused("plan(" + n + ")", x -> x.plan(n), -2);
            refused("work(" + n + ")", x -> x.work(n), -2);
            refused("question(" + n + ")", x -> x.question(n), -2);
        }
    }

    /** Promises 3 to 5: NONE with a fault; all stays but the tape, which is empty then. */
    private void faulty(String name, String text, ToLongFunction<NotchedCards> call, int fault, int place) {
        NotchedCards x = made();
        check.due("blanks", x.work(0), 0);
        Check.work(x, "pass a to b a by 0;join c f;");
        Check.feed(x, text);
        String ahead = Seen.of(x);
        check.due(name + " " + text, call.applyAsLong(x), -1);
        check.dueText(name + " " + text + ": all stays", Seen.of(x), ahead);
        check.fault(x, name + " " + text, fault, place);
        check.due(name + " " + text + ": none is left on the tape", x.question(1), -2);
        check.fault(x, name + " " + text + ", then -2", fault, place);
        check.due(name + " " + text + ": the tape is empty", x.feed(0, 0, 0, 0, 0), 20);
    }

    private void faultyTexts() {
        String[] plans = {"holes 61;", "holes 20;field a one 0 1", "holes 20;field a laid 0 3 2;word a b 1;", "x"};
        int[][] planFaults = {{2, 6}, {1, 24}, {5, 38}, {1, 0}};
        for (int i = 0; i < plans.length; i++) {
            int n = plans[i].length();
            faulty("plan", plans[i], x -> x.plan(n), planFaults[i][0], planFaults[i][1]);
        }
        String[] works = {"join b a;join a a;", "join b a;again 2(join b a;", "pass a to b c by 12;", "join b a;pass b to a a by x;"};
        int[][] workFaults = {{3, 16}, {1, 26}, {2, 17}, {4, 26}};
        for (int i = 0; i < works.length; i++) {
            int n = works[i].length();
            faulty("work", works[i], x -> x.work(n), workFaults[i][0], workFaults[i][1]);
        }
        String[] questions = {"", "wood and", "not kind = 3", "not topic", "wood wood"};
        int[][] questionFaults = {{1, 0}, {1, 8}, {2, 11}, {4, 4}, {1, 5}};
        for (int i = 0; i < questions.length; i++) {
            int n = questions[i].length();
            faulty("question", questions[i], x -> x.question(n), questionFaults[i][0], questionFaults[i][1]);
        }
    }

    /** Promises 12 to 16 and 19: no such ones. */
    private void wrongNotes() {
        int[] noCards = {3, 30, -1, MOST, FEWEST};
        for (int card : noCards) {
            refused("set of card " + card, x -> x.set(card, 0, 0), -1);
            refused("put of card " + card, x -> x.put(card, 0), -1);
            refused("torn card " + card, x -> x.tear(card, 0, false), -1);
            refused("mended card " + card, x -> x.tear(card, 0, true), -1);
            refused("turn(" + card + ")", x -> x.turn(card) ? 1 : 0, 0);
        }
        int[] noFields = {2, 1, 8, -1, MOST, FEWEST};
        for (int field : noFields) {
            refused("set of field " + field, x -> x.set(0, field, 0), -1);
        }
        int[] noValues = {3, 10, -1, MOST, FEWEST};
        for (int value : noValues) {
            refused("set of value " + value, x -> x.set(0, 0, value), -1);
        }
        int[] noWords = {2, 12, -1, MOST, FEWEST};
        for (int word : noWords) {
            refused("put of word " + word, x -> x.put(0, word), -1);
            refused("recode of word " + word, x -> x.recode(word, 3), -1);
        }
        int[] noHoles = {12, 60, 63, 64, -1, MOST, FEWEST};
        for (int hole : noHoles) {
            refused("torn hole " + hole, x -> x.tear(0, hole, false), -1);
            refused("mended hole " + hole, x -> x.tear(0, hole, true), -1);
        }
        int[] noCodes = {0, 1, 7, 64, 65, 192, 1 << 31 | 1, 3 << 30, -1, MOST, FEWEST};
        for (int bits : noCodes) {
            refused("recode to " + bits, x -> x.recode(1, bits), -1);
        }
        int[] noNotes = {5, 6, 150, -1, MOST, FEWEST};
        for (int note : noNotes) {
            refused("strike(" + note + ")", x -> x.strike(note), -1);
        }
    }

    /** Promises 2 and 11 to 16: the tape, the cards, the notes are full. */
    private void aFullRow() {
        NotchedCards tape = new NotchedCards();
        String forty = " ".repeat(480) + "holes 10;field a one";
        Check.feed(tape, forty);
        check.due("feed of a full tape", tape.feed(-1, -1, -1, -1, -1), -1);
        check.due("feed of a full tape, once more", tape.feed(-1, -1, -1, -1, -1), -1);
        check.due("the tape stays", tape.plan(501), -2);
        check.due("none have come", tape.plan(489), 1);

        NotchedCards cards = Check.made(PLAN, 30);
        cards.turn(29);
        check.due("a 31st card", cards.card(), -1);
        check.due("a 31st card: cards", cards.count(3), 30);
        check.due("a 31st card: pack a", cards.pack(0, 29), 29);
        check.due("a 31st card: pack a", cards.pack(0, 30), -1);
        check.due("a 31st card: it isn't turned", cards.turn(30) ? 1 : 0, 0);
        check.due("a 31st card: turned", cards.turned(), 1 << 29);
        check.due("a 31st card: gather", cards.gather(), 30);

        NotchedCards notes = Check.made(PLAN, 1);
        for (int i = 0; i < 150; i++) {
            notes.put(0, 0);
        }
        check.due("a 151st note: set", notes.set(0, 0, 1), -1);
        check.due("a 151st note: put", notes.put(0, 1), -1);
        check.due("a 151st note: torn", notes.tear(0, 11, false), -1);
        check.due("a 151st note: mended", notes.tear(0, 4, true), -1);
        check.due("a 151st note: recode", notes.recode(0, 48), -1);
        check.due("a 151st note: strike", notes.strike(149), -1);
        check.due("a 151st note: notes", notes.count(4), 150);
        check.due("a 151st note: notched", notes.notched(150, 0), 3 << 4);
        check.due("a 151st note: truly", notes.truly(150, 0, 1), 1);
        check.due("a 151st note: no value", notes.truly(150, 0, 0), -1);
        check.due("a 151st note: code", notes.coded(150, 0), 3 << 4);
        check.due("a 151st note: dropping", notes.drops(0, 3 << 4), 1);
    }

    /** Promises 6 to 10, 17, 18, 20 to 22 and 24 to 31 answer, and change nothing. */
    private void lookingOnly() {
        refused("drops: nothing is moved", x -> x.drops(0, 0), 1 << 1 | 1 << 2);
        refused("drops of pack c", x -> x.drops(2, 4), 1);
        refused("sort: nothing is moved", x -> x.sort(0, 0, 0), 0);
        refused("behind", x -> x.behind(0, 0), 0);
        refused("best", x -> x.best(5, 0), 3);
        refused("falsely", x -> x.falsely(5, 1), 0);
        refused("likely", x -> x.likely(5, 1, 1), 15);
        refused("means", x -> x.means(5, 1, 1, 0, 0), 1);
        refused("truly", x -> x.truly(3, 1, 1), 1);
        refused("turned", x -> x.turned(), 2);
        refused("ask", x -> x.ask(3, 3), 2);
    }

    /** Each promise that says what it answers if there are no such ones; all stays. */
    private void wrongLooks() {
        int[] wrong = {-1, 64, MOST, FEWEST};
        for (int no : wrong) {
            refused("fault(" + no + ")", x -> x.fault(no), -1);
            refused("named(" + no + ")", x -> x.named(no, Check.packed("kind")), -1);
            refused("look(" + no + ", 0)", x -> Seen.look(x, no, 0), -100);
            refused("look(0, " + no + ")", x -> Seen.look(x, 0, no), -200);
            refused("code(" + no + ", 0)", x -> x.code(no, 0), 0);
            refused("code(0, " + no + ")", x -> x.code(0, no), 0);
            refused("coded(" + no + ", 0)", x -> x.coded(no, 0), 0);
            refused("coded(0, " + no + ")", x -> x.coded(0, no), 0);
            refused("notched(" + no + ", 0)", x -> x.notched(no, 0), -1);
            refused("notched(0, " + no + ")", x -> x.notched(0, no), -1);
            refused("truly(" + no + ", 0, 0)", x -> x.truly(no, 0, 0), -2);
            refused("truly(0, " + no + ", 0)", x -> x.truly(0, no, 0), -2);
            refused("truly(0, 0, " + no + ")", x -> x.truly(0, 0, no), -2);
            refused("pack(" + no + ", 0)", x -> x.pack(no, 0), -1);
            refused("pack(0, " + no + ")", x -> x.pack(0, no), -1);
            refused("drops(" + no + ", 0)", x -> x.drops(no, 0), -1);
            refused("ask(" + no + ", 0)", x -> x.ask(no, 0), -1);
            refused("ask(0, " + no + ")", x -> x.ask(0, no), -1);
            refused("likely(" + no + ", 0, 0)", x -> x.likely(no, 0, 0), -1);
            refused("likely(0, " + no + ", 0)", x -> x.likely(0, no, 0), -1);
            refused("likely(0, 0, " + no + ")", x -> x.likely(0, 0, no), -1);
            refused("falsely(" + no + ", 0)", x -> x.falsely(no, 0), -1);
            refused("falsely(0, " + no + ")", x -> x.falsely(0, no), -1);
            refused("best(" + no + ", 0)", x -> x.best(no, 0), -1);
            refused("best(0, " + no + ")", x -> x.best(0, no), -1);
            for (int field = 0; field < 2; field++) {
                int f = field;
                refused("means(" + no + ", 0, " + f + ", 0, 0)", x -> x.means(no, 0, f, 0, 0), -2);
                refused("means(0, " + no + ", " + f + ", 0, 0)", x -> x.means(0, no, f, 0, 0), -2);
                refused("means(0, 0, " + f + ", " + no + ", 0)", x -> x.means(0, 0, f, no, 0), -2);
                refused("means(0, 0, " + f + ", 0, " + no + ")", x -> x.means(0, 0, f, 0, no), -2);
            }
            refused("means(0, 0, " + no + ", 0, 0)", x -> x.means(0, 0, no, 0, 0), -2);
            refused("behind(" + no + ", 0)", x -> x.behind(no, 0), -1);
            refused("behind(0, " + no + ")", x -> x.behind(0, no), -1);
            refused("sort(" + no + ", 0, 0)", x -> x.sort(no, 0, 0), -1);
            refused("sort(0, " + no + ", 0)", x -> x.sort(0, no, 0), -1);
            refused("sort(0, 0, " + no + ")", x -> x.sort(0, 0, no), -1);
            refused("count(" + no + ")", x -> x.count(no), -1);
        }
    }
}
