/** Promise 3: plans and their faults. */
public final class PlanTest {
    public static void main(String[] args) {
        Check check = new Check("PlanTest");
        plans(check);
        strangeTokens(check);
        tooMuch(check);
        toldAlready(check);
        wordFaults(check);
        aNewPlan(check);
        check.end();
    }

    private static void plans(Check check) {
        NotchedCards x = new NotchedCards();
        check.due("the plan of the tests", Check.plan(x, Check.PLAN), 8);
        check.fault(x, Check.PLAN, 0, -1);
        check.due("no blanks needed", Check.plan(x, "holes10;field\na one0 1;"), 2);
        check.due("zeros ahead", Check.plan(x, "holes 00000000000000000000000012;field a sums 008;"), 2);
        check.due("first hole", x.count(0), 12);
        check.due("fewest and most", Check.plan(x, "holes 60;field a one 0 1;field b one 2 25;field c laid 26 26 1;field g laid 27 50 4;"), 5);
        check.due("sums and pairs at the end", Check.plan(x, "holes 10;field a sums 6;field b pairs 1;"), 3);
        check.due("eight fields", Check.plan(x, fields(8)), 9);
        check.due("twelve words", Check.plan(x, words(12)), 14);
        String most = fields(7) + words(12).substring("holes 60;".length()).replace("0 23", "20 43");
        check.due("eight fields and twelve words", Check.plan(x, most), 21);
        check.planFault(most + "holes", 3, most.length());
        check.due("words numbered as they come", x.named(1, Check.packed("wk")), 10);
        check.due("names of one letter, of six letters", Check.plan(x, "holes 10;field f laid 0 9 1;word f abcdef 9;word f z 0;"), 4);
        check.due("code of abcdef", x.coded(0, 0), 512);
    }

    private static String fields(int size) {
        StringBuilder plan = new StringBuilder("holes 60;");
        for (int i = 0; i < size; i++) {
            plan.append("field f").append((char) ('a' + i)).append(" one ").append(2 * i).append(' ').append(2 * i + 1).append(';');
        }
        return plan.toString();
    }

    private static String words(int size) {
        StringBuilder plan = new StringBuilder("holes 60;field a laid 0 23 1;");
        for (int i = 0; i < size; i++) {
            plan.append("word a w").append((char) ('a' + i)).append(' ').append(i).append(';');
        }
        return plan.toString();
    }

    private static void strangeTokens(Check check) {
        check.planFault(";", 1, 0);
        check.planFault("holes 10;;", 1, 9);
        check.planFault(" holes ;", 1, 7);
        check.planFault("holes 10", 1, 8);
        check.planFault("holes 10  \n", 1, 11);
        check.planFault("holes 10;field", 1, 14);
        check.planFault("holes 10 holes", 1, 9);
        check.planFault("field a one 0 1;", 1, 0);
        check.planFault("word a b 1;", 1, 0);
        check.planFault("holes 10;pass", 1, 9);
        check.planFault("holes 10;a", 1, 9);
        check.planFault("holes 10;field a b", 1, 17);
        check.planFault("holes 10;field a join", 1, 17);
        check.planFault("holes 10;field 1", 1, 15);
        check.planFault("holes 10;field abcdefg one 0 1;", 1, 15);
        check.planFault("holes 10;abcdefg", 1, 9);
        check.planFault("Holes 10;", 1, 0);
        check.planFault("holes\t10;", 1, 5);
        check.planFault("holes 10;field a one 1;", 1, 22);
        check.planFault("holes 10;field a one 1 2 3;", 1, 25);
        check.planFault("holes 10;field a sums 1 2;", 1, 24);
        check.planFault("holes 10;field a laid 1 2;", 1, 25);
        check.planFault("holes 10;field a = 1", 1, 17);
        String[] language = {"holes", "field", "word", "one", "sums", "pairs", "laid", "pass", "to", "by", "join", "again", "not", "and", "or"};
        for (String word : language) {
            check.planFault("holes 10;field " + word + " one 0 1;", 1, 15);
            check.planFault("holes 10;field a laid 0 1 1;word " + word + " b 0;", 1, 33);
            check.planFault("holes 10;field a laid 0 1 1;word a " + word + " 0;", 1, 35);
        }
    }

    private static void tooMuch(Check check) {
        check.planFault("holes 9;", 2, 6);
        check.planFault("holes 61;", 2, 6);
        check.planFault("holes 100;", 2, 6);
        check.planFault("holes 99999999999999999999999999;", 2, 6);
        check.planFault("holes 10;100", 1, 9);
        check.planFault("holes 10;field a one 10 11;", 2, 21);
        check.planFault("holes 10;field a one 3 3;", 2, 23);
        check.planFault("holes 10;field a one 3 2;", 2, 23);
        check.planFault("holes 10;field a one 3 10;", 2, 23);
        check.planFault("holes 60;field a one 3 27;", 2, 23);
        check.planFault("holes 60;field a laid 3 2 1;", 2, 24);
        check.planFault("holes 60;field a laid 3 27 1;", 2, 24);
        check.planFault("holes 60;field a laid 3 200 1;", 2, 24);
        check.planFault("holes 60;field a laid 3 5 0;", 2, 26);
        check.planFault("holes 60;field a laid 3 9 5;", 2, 26);
        check.planFault("holes 60;field a laid 3 4 3;", 2, 26);
        check.planFault("holes 10;field a sums 7;", 2, 22);
        check.planFault("holes 10;field a pairs 6;", 2, 23);
        check.planFault("holes 10;field a pairs 111;", 2, 23);
        check.planFault(fields(9), 2, fields(8).length());
        check.planFault(fields(8) + "field 9", 2, fields(8).length());
        check.planFault(words(13), 2, words(12).length());
        check.planFault(words(12) + "word", 2, words(12).length());
    }

    private static void toldAlready(Check check) {
        check.planFault("holes 10;holes 9;", 3, 9);
        check.planFault("holes 10;holes", 3, 9);
        check.planFault("holes 12;field a one 2 4;field a one 5 6;", 3, 31);
        check.planFault("holes 12;field a laid 2 4 1;word a b 0;field b one 5 6;", 3, 45);
        check.planFault("holes 12;field a one 2 4;field b one 4 5;", 3, 37);
        check.planFault("holes 12;field a one 2 4;field b one 1 2;", 3, 39);
        check.planFault("holes 12;field a one 2 4;field b one 1 9;", 3, 39);
        check.planFault("holes 12;field a one 2 4;field b one 1 12;", 2, 39);
        check.planFault("holes 12;field a one 2 4;field b one 4 4;", 3, 37);
        check.planFault("holes 12;field a one 2 4;field b laid 1 9 9;", 3, 40);
        check.planFault("holes 12;field a one 2 4;field b sums 1;", 3, 38);
        check.planFault("holes 12;field a one 5 6;field b sums 2;", 3, 38);
        check.planFault("holes 12;field a one 10 11;field b sums 9;", 2, 40);
        check.planFault("holes 12;field a one 6 7;field b pairs 2;", 3, 39);
        check.planFault("holes 12;field a one 2 4;field b one 12 13;", 2, 37);
        check.planFault("holes 12;field a one 0 1;field b one 2 3;field c one 1 2;", 3, 53);
    }

    private static void wordFaults(Check check) {
        String laid = "holes 30;field a laid 0 9 2;field b one 20 21;";
        int from = laid.length();
        check.planFault(laid + "word c d 0 1;", 4, from + 5);
        check.planFault(laid + "word b d 0 1;", 4, from + 5);
        check.planFault(laid + "word a d 0 1;word d e 0 1;", 4, from + 18);
        check.planFault(laid + "word a a 0 1;", 3, from + 7);
        check.planFault(laid + "word a b 0 1;", 3, from + 7);
        check.planFault(laid + "word a d 0 1;word a d 0 1;", 3, from + 20);
        check.planFault(laid + "word a d;", 1, from + 8);
        check.planFault(laid + "word a d 0;", 5, from + 10);
        check.planFault(laid + "word a d 0", 1, from + 10);
        check.planFault(laid + "word a d 0 d", 1, from + 11);
        check.planFault(laid + "word a d 0 1 d", 1, from + 13);
        check.planFault(laid + "word a d 0 0;", 3, from + 11);
        check.planFault(laid + "word a d 0 1 0;", 2, from + 13);
        check.planFault(laid + "word a d 0 1 5;", 2, from + 13);
        check.planFault(laid + "word a d 10 1;", 2, from + 9);
        check.planFault(laid + "word a d 1 300;", 2, from + 11);
        check.planFault("holes 10;word a b 1;", 4, 14);
    }

    private static void aNewPlan(Check check) {
        NotchedCards x = Check.made(Check.PLAN, 3);
        x.set(0, 0, 1);
        x.turn(1);
        check.due("a question", Check.question(x, "iron"), 1);
        check.due("with a fault", Check.plan(x, "holes 20;field a one 0 0;"), -1);
        check.due("all stays: holes", x.count(0), 30);
        check.due("all stays: fields", x.count(1), 4);
        check.due("all stays: words", x.count(2), 3);
        check.due("all stays: cards", x.count(3), 3);
        check.due("all stays: notes", x.count(4), 1);
        check.due("all stays: knots", x.count(5), 1);
        check.due("all stays: turned", x.turned(), 2);
        check.due("all stays: notched", x.notched(1, 0), 2);
        check.due("all stays: topic", x.named(0, Check.packed("topic")), 3);
        check.due("a second plan", Check.plan(x, "holes 20;field g one 0 2;"), 2);
        check.due("holes", x.count(0), 20);
        check.due("fields", x.count(1), 1);
        check.due("words", x.count(2), 0);
        check.due("cards", x.count(3), 0);
        check.due("notes", x.count(4), 0);
        check.due("knots", x.count(5), 0);
        check.due("turned", x.turned(), 0);
        check.due("pack", x.pack(0, 0), -1);
        check.due("ask", x.ask(0, 0), -1);
        check.due("topic is gone", x.named(0, Check.packed("topic")), -1);
        check.due("a card anew", x.card(), 0);
        check.due("nothing notched", x.notched(0, 0), 0);
        check.due("an empty plan", Check.plan(x, ""), 0);
        check.due("as at first", x.count(0), 10);
        check.due("as at first", x.count(1), 0);
        check.due("as at first", x.count(3), 0);
    }
}
