/** Promises 5 and 24: questions, by holes and truly. */
public final class QuestionTest {
    public static void main(String[] args) {
        Check check = new Check("QuestionTest");
        knots(check);
        faults(check);
        tooMuch(check);
        answers(check);
        byNotes(check);
        check.end();
    }

    private static void knots(Check check) {
        NotchedCards x = Check.made(Check.PLAN, 1);
        check.due("a word", Check.question(x, "iron"), 1);
        check.due("a value", Check.question(x, "year=9"), 1);
        check.due("not not", Check.question(x, "not not iron"), 3);
        check.due("all", Check.question(x, "not(iron or kind = 3)and no = 0"), 6);
        check.due("count(5)", x.count(5), 6);
        check.due("with a fault", Check.question(x, "iron and"), -1);
        check.due("the one ahead stays", x.count(5), 6);
        check.due("-2", x.question(30), -2);
        check.due("the one ahead stays", x.count(5), 6);
    }

    private static void fault(Check check, String text, int fault, int place) {
        NotchedCards x = Check.made(Check.PLAN, 1);
        check.due(text, Check.question(x, text), -1);
        check.fault(x, text, fault, place);
        check.due(text + ": no question", x.ask(0, 0), -1);
    }

    private static void faults(Check check) {
        fault(check, "", 1, 0);
        fault(check, "  ", 1, 2);
        fault(check, "iron wood", 1, 5);
        fault(check, "iron;", 1, 4);
        fault(check, "iron)", 1, 4);
        fault(check, "(iron", 1, 5);
        fault(check, "()", 1, 1);
        fault(check, "and iron", 1, 0);
        fault(check, "iron or", 1, 7);
        fault(check, "iron or or wood", 1, 8);
        fault(check, "not", 1, 3);
        fault(check, "iron not wood", 1, 5);
        fault(check, "3 = kind", 1, 0);
        fault(check, "kind = iron", 1, 7);
        fault(check, "kind =", 1, 6);
        fault(check, "kind = 3 = 3", 1, 9);
        fault(check, "pass", 1, 0);
        fault(check, "holes", 1, 0);
        fault(check, "ironing", 1, 0);
        fault(check, "iron & wood", 1, 5);
        fault(check, "topic", 4, 0);
        fault(check, "kind", 4, 0);
        fault(check, "kind and iron", 4, 0);
        fault(check, "iron or (kind)", 4, 9);
        fault(check, "kind ? 3", 4, 0);
        fault(check, "topic = 1", 4, 0);
        fault(check, "iron = 1", 4, 0);
        fault(check, "iron =", 4, 0);
        fault(check, "what", 4, 0);
        fault(check, "what = 100", 4, 0);
        fault(check, "iron or what", 4, 8);
        fault(check, "a", 4, 0);
    }

    private static void tooMuch(Check check) {
        fault(check, "kind = 4", 2, 7);
        fault(check, "year = 10", 2, 7);
        fault(check, "no = 10", 2, 5);
        fault(check, "no = 100", 2, 5);
        String eight = "((((((((iron))))))))";
        NotchedCards x = Check.made(Check.PLAN, 1);
        check.due("eight open", Check.question(x, eight), 1);
        check.due("eight open, twice", Check.question(x, eight + "or" + eight), 3);
        fault(check, "(" + eight + ")", 2, 8);
        fault(check, "(((((((( (", 2, 9);
        String row = "iron and ".repeat(19);
        check.due("forty knots", Check.question(x, row + "not iron"), 40);
        fault(check, row + "iron and wood", 2, row.length() + 9);
        fault(check, row + "iron and what", 2, row.length() + 9);
        fault(check, row + "iron and by", 1, row.length() + 9);
        fault(check, row + "not iron or wood", 2, row.length() + 9);
        fault(check, row + "not not iron", 2, row.length() + 8);
        fault(check, row + "iron and kind = 9", 2, row.length() + 9);
        String nots = "not ".repeat(39);
        check.due("39 not", Check.question(x, nots + "iron"), 40);
        check.due("39 not", x.ask(0, 0), 1);
        fault(check, nots + "not iron", 2, nots.length() + 4);
        fault(check, nots + "not not iron", 2, nots.length() + 4);
    }

    private static void asked(Check check, NotchedCards x, int n, String text, int byHoles, int truly) {
        check.due(text, Check.question(x, text) > 0 ? 1 : 0, 1);
        check.due(text + " by holes", x.ask(n, 0), byHoles);
        check.due(text + " truly", x.ask(n, 1), truly);
        check.due(text + " false", x.ask(n, 2), byHoles & ~truly);
        check.due(text + " missed", x.ask(n, 3), truly & ~byHoles);
    }

    private static void answers(Check check) {
        NotchedCards x = Check.made(Check.PLAN, 4);
        x.put(0, 0);
        x.put(0, 1);
        x.put(1, 2);
        x.set(2, 1, 3);
        x.set(2, 1, 8);
        x.set(3, 2, 0);
        x.tear(3, 8, true);
        int n = x.count(4);
        asked(check, x, n, "clay", 3, 2);
        asked(check, x, n, "not clay", 12, 13);
        asked(check, x, n, "iron and wood", 1, 1);
        asked(check, x, n, "year = 8", 4, 4);
        asked(check, x, n, "year = 3", 4, 0);
        asked(check, x, n, "year = 1", 4, 0);
        asked(check, x, n, "year = 0", 15, 0);
        asked(check, x, n, "no = 0", 0, 8);
        asked(check, x, n, "no = 0 or iron and clay", 1, 8);
        asked(check, x, n, "(no = 0 or iron) and clay", 1, 0);
        asked(check, x, n, "iron or wood and clay", 1, 1);
        asked(check, x, n, "not iron and not clay", 12, 12);
        asked(check, x, n, "not (iron and not clay)", 15, 14);
        asked(check, x, n, "clay or iron or year = 8", 7, 7);
        check.due("no such what", x.ask(n, 4), -1);
        check.due("no such what", x.ask(n, -1), -1);
        check.due("no such n", x.ask(n + 1, 0), -1);
        check.due("no such n", x.ask(-1, 0), -1);
        for (int c = 0; c < 4; c++) {
            x.turn(c);
        }
        check.due("cards turned over are asked as others", x.ask(n, 0), 7);
    }

    private static void byNotes(Check check) {
        NotchedCards x = Check.made(Check.PLAN, 2);
        x.put(0, 0);
        x.recode(0, 768);
        x.put(1, 0);
        x.strike(1);
        check.due("iron", Check.question(x, "iron"), 1);
        int[] byHoles = {0, 1, 0, 2, 3};
        int[] truly = {0, 1, 1, 3, 3};
        for (int n = 0; n <= 4; n++) {
            check.due("iron by holes, known by " + n, x.ask(n, 0), byHoles[n]);
            check.due("iron truly, known by " + n, x.ask(n, 1), truly[n]);
        }
    }
}
