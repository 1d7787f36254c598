/** Promise 4 and 19 to 23: work, packs, cards turned over. */
public final class WorkTest {
    private static final String LETTERS = "holes 20;field a laid 0 5 2;word a b 0 1;word a g 1 2;field kind one 10 12;";

    public static void main(String[] args) {
        Check check = new Check("WorkTest");
        passes(check);
        needles(check);
        again(check);
        spent(check);
        faults(check);
        turns(check);
        drops(check);
        packs(check);
        check.end();
    }

    private static void passes(Check check) {
        NotchedCards x = Check.made(Check.PLAN, 5);
        x.tear(1, 5, false);
        x.tear(3, 5, false);
        x.tear(3, 6, false);
        check.due("drop and lift", Check.work(x, "pass a to b c by 5;"), 0);
        check.dueRow("drop and lift", x, 0, "");
        check.dueRow("drop and lift", x, 1, "1 3");
        check.dueRow("drop and lift", x, 2, "0 2 4");
        check.due("behind what lies there", Check.work(x, "pass c to b c by 5;join b f;pass f to a f by 6;join f a;join c a;"), 0);
        check.dueRow("all again", x, 0, "3 1 0 2 4");
        check.dueRow("all again", x, 1, "");
        check.dueRow("all again", x, 5, "");
        check.due("dropped ones go behind", Check.work(x, "pass a to b a by 5;join b a;"), 0);
        check.dueRow("dropped ones go behind", x, 0, "0 2 4 3 1");
        check.due("into the pack itself", Check.work(x, "pass a to a a by 5;"), 0);
        check.dueRow("into the pack itself", x, 0, "0 2 4 3 1");
        check.due("dropped to the same, lifted away", Check.work(x, "pass a to a e by 5;"), 0);
        check.dueRow("dropped to the same", x, 0, "3 1");
        check.dueRow("lifted away", x, 4, "0 2 4");
        check.due("an empty pack", Check.work(x, "pass d to a e by 5;join d a;"), 0);
        check.dueRow("an empty pack", x, 0, "3 1");
        check.due("no work", Check.work(x, ""), 0);
        check.due("S of no work", x.count(7), 0);
        check.due("passes of no work", x.count(6), 0);
    }

    private static void needles(Check check) {
        NotchedCards x = Check.made(LETTERS, 4);
        x.put(0, 0);
        x.put(1, 1);
        x.set(2, 1, 2);
        x.tear(2, 0, false);
        x.tear(2, 1, false);
        check.due("a word of one letter", Check.work(x, "pass a to b c by b;"), 0);
        check.dueRow("a word of one letter", x, 1, "0 2");
        x.gather();
        check.due("a field of one letter", Check.work(x, "pass a to b c by a 2;"), 0);
        check.dueRow("a field of one letter", x, 1, "1");
        x.gather();
        check.due("a hole of a field", Check.work(x, "pass a to b c by kind 2 b;"), 0);
        check.dueRow("a hole of a field", x, 1, "2");
        x.gather();
        check.due("a word and a hole behind it", Check.work(x, "pass a to b c by b 12;"), 0);
        check.dueRow("a word and a hole behind it", x, 1, "2");
        x.gather();
        check.due("a code by then", x.recode(0, 48), 5);
        x.tear(3, 4, false);
        x.tear(3, 5, false);
        check.due("a word with another code", Check.work(x, "pass a to b c by b;"), 0);
        check.dueRow("a word with another code", x, 1, "3");
        x.gather();
        x.strike(5);
        check.due("a word with its code again", Check.work(x, "pass a to b c by b;"), 0);
        check.dueRow("a word with its code again", x, 1, "0 2");
        x.gather();
        check.due("two holes: each counts", Check.work(x, "pass a to b c by 12 1;"), 0);
        check.dueRow("two holes: each counts", x, 1, "2");
        check.due("two holes: each counts", Check.work(x, "join c b;pass b to a c by a 0 1;"), 0);
        check.dueRow("two holes: each counts", x, 0, "2 0");
        x.gather();
        check.due("a word, then its cards", Check.work(x, "pass a to b c by b;"), 0);
        check.due("the same hole twice", Check.work(x, "pass b to d e by 0 0 a 0;"), 0);
        check.dueRow("the same hole twice", x, 3, "0 2");
    }

    private static void again(Check check) {
        NotchedCards x = Check.made(Check.PLAN, 2);
        check.due("again", Check.work(x, "again 3(join a b;join b a;)"), 0);
        check.due("S", x.count(7), 7);
        check.due("again 0", Check.work(x, "again 0(pass a to b b by 0;)join a f;"), 0);
        check.due("S", x.count(7), 2);
        check.due("passes", x.count(6), 0);
        check.dueRow("again 0", x, 5, "0 1");
        check.due("empty ones", Check.work(x, "again 99()again 2(again 3())"), 0);
        check.due("S", x.count(7), 4);
        check.due("five open", Check.work(x, "again 1(again 1(again 1(again 1(again 1(pass f to a a by 1;)))))"), 0);
        check.due("S", x.count(7), 6);
        check.due("passes", x.count(6), 1);
        check.due("side by side is not open", Check.work(x, "again 1()again 1()again 1()again 1()again 1()again 1()"), 0);
    }

    private static void spent(Check check) {
        NotchedCards x = Check.made(Check.PLAN, 1);
        // 1 + 99 * 29 and 98 and 30.
        String work = "again 99(again 28(join a b;))again 97(join a b;)again 29(join a b;)";
        check.due("exactly 3000", Check.work(x, work), 0);
        check.due("S", x.count(7), 3000);
        check.due("3001", Check.work(x, work + "join a b;"), 1);
        check.due("S", x.count(7), 3000);
        check.due("an again that is one too much", Check.work(x, work + "again 0()"), 1);
        check.due("S", x.count(7), 3000);
        check.due("a pass that is one too much", Check.work(x, work + "pass a to b b by 1;"), 1);
        check.due("passes", x.count(6), 0);
        x.gather();
        check.due("what is done stays", Check.work(x, "again 99(again 99(join a b;join b a;))"), 1);
        // Of 3000, 1 is the first again, 15 rounds have 199 and the last one 14: an again and 13 joins.
        check.dueRow("what is done stays", x, 1, "0");
        check.due("passes of a spent one", Check.work(x, "again 99(again 99(pass a to b b by 0;))"), 1);
        check.due("passes", x.count(6), 3000 - 1 - 30);
    }

    private static void fault(Check check, String text, int fault, int place) {
        NotchedCards x = Check.made(LETTERS, 2);
        check.due(text, Check.work(x, text), -1);
        check.fault(x, text, fault, place);
        check.dueRow(text + ": nothing is done", x, 0, "0 1");
        check.due(text + ": nothing is done", x.count(7), 0);
    }

    private static void faults(Check check) {
        fault(check, "join a b", 1, 8);
        fault(check, "join a b;)", 1, 9);
        fault(check, "join a b;;", 1, 9);
        fault(check, "join a g;", 1, 7);
        fault(check, "join ab c;", 1, 5);
        fault(check, "join a kind;", 1, 7);
        fault(check, "join 1 b;", 1, 5);
        fault(check, "join a b;join c c;", 3, 16);
        fault(check, "join a b;holes", 1, 9);
        fault(check, "join a b;to", 1, 9);
        fault(check, "join a b;a", 1, 9);
        fault(check, "pass a b c by 1;", 1, 7);
        fault(check, "pass a to b by 1;", 1, 12);
        fault(check, "pass a to b c 1;", 1, 14);
        fault(check, "pass a to b c by;", 1, 16);
        fault(check, "pass a to b c by ", 1, 17);
        fault(check, "pass a to b c by 20;", 2, 17);
        fault(check, "pass a to b c by 1 100;", 2, 19);
        fault(check, "pass a to b c by a 6;", 2, 19);
        fault(check, "pass a to b c by kind 3;", 2, 22);
        fault(check, "pass a to b c by kind;", 1, 21);
        fault(check, "pass a to b c by kind b;", 1, 22);
        fault(check, "pass a to b c by c;", 4, 17);
        fault(check, "pass a to b c by what 99;", 4, 17);
        fault(check, "pass a to b c by by;", 1, 17);
        fault(check, "pass a to b c by one;", 1, 17);
        fault(check, "pass a to b c by 1 and 2;", 1, 19);
        fault(check, "pass a to b c by abcdefg;", 1, 17);
        fault(check, "pass a to b c by 1 = 2;", 1, 19);
        fault(check, "again (join a b;)", 1, 6);
        fault(check, "again 100(join a b;)", 2, 6);
        fault(check, "again 1 join a b;", 1, 8);
        fault(check, "again 1(join a b;", 1, 17);
        fault(check, "again 1(join a b;);", 1, 18);
        fault(check, "again 1(join a b;))", 1, 18);
        fault(check, "again 0(join a a;)", 3, 15);
        fault(check, "again 1(again 1(again 1(again 1(again 1(again 1()", 2, 47);
        fault(check, "again 1(again 1(again 1(again 1(again 1(again 1 a", 1, 48);
        StringBuilder forty = new StringBuilder();
        for (int i = 0; i < 20; i++) {
            forty.append("join a b;join b a;");
        }
        NotchedCards x = Check.made(LETTERS, 1);
        check.due("forty S", Check.work(x, forty.toString()), 0);
        fault(check, forty + "join a a;", 2, forty.length());
        fault(check, forty + "pass", 2, forty.length());
        fault(check, forty + "holes", 1, forty.length());
        fault(check, "again 1(" + forty + ")", 2, 8 + forty.length() - 9);
    }

    private static void turns(Check check) {
        NotchedCards x = Check.made("holes 11;field a one 0 2;", 3);
        check.due("turn(0)", x.turn(0) ? 1 : 0, 1);
        check.due("turn(2)", x.turn(2) ? 1 : 0, 1);
        check.due("turned()", x.turned(), 5);
        check.due("turn(0) back", x.turn(0) ? 1 : 0, 1);
        check.due("turned()", x.turned(), 4);
        check.due("turn(3)", x.turn(3) ? 1 : 0, 0);
        check.due("turn(-1)", x.turn(-1) ? 1 : 0, 0);
        check.due("turned()", x.turned(), 4);
        for (int c = 0; c < 3; c++) {
            x.set(c, 0, 1);
            x.tear(c, 5, false);
        }
        check.due("at place 1", x.drops(0, 2), 3);
        check.due("at place 9", x.drops(0, 512), 4);
        check.due("at the middle", x.drops(0, 32), 7);
        check.due("notched as ever", x.notched(6, 2), 34);
        check.due("a pass", Check.work(x, "pass a to b c by a 1;"), 0);
        check.dueRow("a pass", x, 1, "0 1");
        check.dueRow("a pass", x, 2, "2");
        check.due("gather", x.gather(), 3);
        check.due("none turned", x.turned(), 0);
        check.dueRow("gather", x, 0, "0 1 2");
        check.dueRow("gather", x, 1, "");
    }

    private static void drops(Check check) {
        NotchedCards x = Check.made("holes 60;field a one 0 2;", 30);
        x.tear(29, 59, false);
        x.tear(28, 59, false);
        x.tear(28, 0, false);
        check.due("no needle", x.drops(0, 0), (1 << 30) - 1);
        check.due("the last hole", x.drops(0, 1L << 59), 3 << 28);
        check.due("two needles", x.drops(0, 1L << 59 | 1), 1 << 28);
        check.due("bits beyond", x.drops(0, 15L << 60 | 1L << 59), 3 << 28);
        check.due("another pack", x.drops(1, 0), 0);
        check.due("no pack", x.drops(6, 0), -1);
        check.due("no pack", x.drops(-1, 0), -1);
        check.due("nothing is moved", x.pack(0, 29), 29);
        x.strike(0);
        check.due("by all notes", x.drops(0, 1L << 59), 1 << 28);
    }

    private static void packs(Check check) {
        NotchedCards x = new NotchedCards();
        for (int c = 0; c < 30; c++) {
            check.due("card()", x.card(), c);
        }
        check.due("a 31st card", x.card(), -1);
        check.due("the last one", x.pack(0, 29), 29);
        check.due("none behind it", x.pack(0, 30), -1);
        check.due("none ahead", x.pack(0, -1), -1);
        check.due("no pack", x.pack(6, 0), -1);
        check.due("no pack", x.pack(-1, 0), -1);
        NotchedCards y = Check.made(Check.PLAN, 2);
        Check.work(y, "join a f;");
        y.card();
        check.dueRow("a new card comes behind pack a", y, 0, "2");
        check.dueRow("the others", y, 5, "0 1");
        check.due("gather", y.gather(), 3);
        check.dueRow("gather", y, 0, "0 1 2");
    }
}
