/** Promises 25 to 28: likely, falsely, best and means. */
public final class ChanceTest {
    public static void main(String[] args) {
        Check check = new Check("ChanceTest");
        wrongOnes(check);
        likely(check);
        best(check);
        bestOfManyCards(check);
        meansOfWords(check);
        meansOfValues(check);
        check.end();
    }

    private static void wrongOnes(Check check) {
        NotchedCards x = Check.made(Check.PLAN, 1);
        x.put(0, 0);
        int[][] wrong = {{2, 0}, {-1, 0}, {1, 3}, {1, -1}};
        for (int[] row : wrong) {
            check.due("likely " + row[0] + " " + row[1], x.likely(row[0], row[1], 0), -1);
            check.due("falsely " + row[0] + " " + row[1], x.falsely(row[0], row[1]), -1);
            check.due("best " + row[0] + " " + row[1], x.best(row[0], row[1]), -1);
        }
        check.due("likely: what", x.likely(1, 0, 2), -1);
        check.due("likely: what", x.likely(1, 0, -1), -1);
        int[][] none = {{2, 0, 3, 0, 0}, {-1, 0, 3, 0, 0}, {1, 1, 3, 0, 0}, {1, -1, 3, 0, 0}, {1, 0, 4, 0, 0}, {1, 0, -1, 0, 0},
            {1, 0, 3, 10, 0}, {1, 0, 3, -1, 0}, {1, 0, 3, 0, 3}, {1, 0, 3, 0, -1}};
        for (int[] row : none) {
            check.due("means: none such", x.means(row[0], row[1], row[2], row[3], row[4]), -2);
        }
    }

    private static void likely(Check check) {
        NotchedCards x = Check.made("holes 60;field a laid 10 33 4;word a x 0 1 2 3;word a y 2 3 4 5;field b one 0 5;", 4);
        check.due("all ways", x.likely(0, 0, 1), 10626);
        check.due("no notes", x.likely(0, 0, 0), 0);
        x.put(0, 0);
        x.put(0, 1);
        x.put(1, 0);
        x.tear(2, 10, false);
        x.tear(2, 11, false);
        x.tear(2, 12, false);
        x.set(2, 1, 3);
        check.due("six holes and four and three", x.likely(7, 1, 0), 1);
        x.tear(2, 33, false);
        check.due("four and four", x.likely(8, 1, 0), 2);
        check.due("the one that hasn't it", x.likely(8, 0, 0), 1);
        check.due("falsely x", x.falsely(8, 0), 0);
        x.tear(2, 13, false);
        check.due("falsely x", x.falsely(9, 0), 1);
        check.due("falsely x, known by 8", x.falsely(8, 0), 0);
        check.due("five holes", x.likely(9, 0, 0), 5);
        x.turn(2);
        check.due("turned over, it is as notched as ever", x.falsely(9, 0), 1);
        check.due("turned over, it is as notched as ever", x.likely(9, 0, 0), 5);
        x.recode(0, 15 << 20);
        check.due("another code", x.falsely(10, 0), 0);
        x.put(2, 0);
        check.due("it has it", x.likely(11, 0, 0), 0);
        NotchedCards y = Check.made("holes 10;field a laid 3 3 1;word a x 0;", 2);
        y.tear(1, 3, false);
        check.due("one way", y.likely(1, 0, 1), 1);
        check.due("one way", y.likely(1, 0, 0), 1);
        check.due("falsely", y.falsely(1, 0), 1);
        check.due("best", y.best(1, 0), 1);
    }

    private static void best(Check check) {
        NotchedCards x = Check.made(Check.PLAN, 2);
        check.due("no notes: fewest shared", x.best(0, 0), 1 | 1 << 4);
        check.due("no notes: clay", x.best(0, 2), 3 << 4);
        x.put(0, 0);
        x.put(0, 1);
        check.due("least drops, then fewest shared", x.best(2, 2), 3 << 4);
        for (int h = 17; h <= 22; h++) {
            x.tear(0, h, false);
        }
        check.due("all drop: fewest shared", x.best(8, 2), 3 << 4);
        for (int h = 13; h <= 20; h++) {
            x.tear(1, h, false);
        }
        check.due("fewest drop: one of the last two", x.best(16, 2), 1 << 4 | 1 << 8);
        x.put(0, 2);
        check.due("a card that has it doesn't count", x.best(17, 2), 1 << 4 | 1 << 8);
        x.put(1, 2);
        check.due("none that hasn't it", x.best(18, 2), 3 << 4);
        x.recode(0, 3 << 4);
        check.due("others' codes of then", x.best(19, 2), 3);
        check.due("known by 18", x.best(18, 2), 3 << 4);
        x.recode(2, 3);
        check.due("its own code isn't shared", x.best(20, 2), 3);
    }

    private static void bestOfManyCards(Check check) {
        NotchedCards x = Check.made("holes 10;field a laid 2 5 2;word a x 0 1;", 5);
        int[][] cut = {{2, 3}, {2, 4}, {2, 3, 4}, {3, 5, 2}, {4, 5}};
        for (int c = 0; c < cut.length; c++) {
            for (int hole : cut[c]) {
                x.tear(c, hole, false);
            }
        }
        // 2 and 3: three cards; 2 and 4: two; 3 and 4, 2 and 5, 3 and 5, 4 and 5: one each.
        check.due("fewest cards, then least bits", x.best(12, 0), 6);
        check.due("known by 6", x.best(6, 0), 6);
        check.due("known by 7", x.best(7, 0), 9);
        x.put(2, 0);
        check.due("none has 3 and 4 then", x.best(13, 0), 6);
        check.due("falsely", x.falsely(13, 0), 2);
        x.put(3, 0);
        check.due("2 and 5, too", x.best(14, 0), 6);
        check.due("falsely", x.falsely(14, 0), 1);
        check.due("likely", x.likely(14, 0, 0), 3);
    }

    private static void meansOfWords(Check check) {
        NotchedCards x = Check.made(Check.PLAN, 2);
        check.due("nothing: sure", x.means(0, 0, 3, 0, 0), 0);
        check.due("nothing: may be", x.means(0, 0, 3, 0, 1), 0);
        check.due("nothing: sets", x.means(0, 0, 3, 0, 2), 1);
        x.tear(0, 13, false);
        check.due("one torn, none: sure", x.means(1, 0, 3, 0, 0), 0);
        check.due("one torn, none: may be", x.means(1, 0, 3, 0, 1), 0);
        check.due("one torn, none: sets", x.means(1, 0, 3, 0, 2), 0);
        check.due("one torn, one: sets", x.means(1, 0, 3, 1, 2), 1);
        x.tear(0, 14, false);
        check.due("iron: sure", x.means(2, 0, 3, 0, 0), 1);
        check.due("iron: sure with one torn", x.means(2, 0, 3, 1, 0), 1);
        check.due("iron: not sure with two torn", x.means(2, 0, 3, 2, 0), 0);
        check.due("iron: may be", x.means(2, 0, 3, 2, 1), 1);
        check.due("iron: sets", x.means(2, 0, 3, 2, 2), 2);
        x.tear(0, 0, false);
        check.due("holes of other fields", x.means(3, 0, 3, 0, 0), 1);
        x.recode(0, 3 << 8);
        check.due("another code", x.means(4, 0, 3, 2, 1), 0);
        check.due("another card", x.means(4, 1, 3, 0, 2), 1);
        NotchedCards both = Check.made(Check.PLAN, 1);
        both.put(0, 1);
        both.put(0, 0);
        both.tear(0, 22, false);
        check.due("one of two sets: may be", both.means(3, 0, 3, 1, 1), 7);
        check.due("one of two sets: sure", both.means(3, 0, 3, 1, 0), 3);
        check.due("iron, wood or clay alone: may be", both.means(3, 0, 3, 3, 1), 7);
        NotchedCards y = twelve();
        check.due("twelve words: sets", y.means(12, 0, 0, 0, 2), 1);
        check.due("twelve words: sure", y.means(12, 0, 0, 0, 0), 4095);
        check.due("nine torn: sets", y.means(12, 0, 0, 9, 2), 4096 - 1 - 12 - 66);
        check.due("nine torn: may be", y.means(12, 0, 0, 9, 1), 4095);
        check.due("nine torn: sure", y.means(12, 0, 0, 9, 0), 0);
    }

    private static NotchedCards twelve() {
        StringBuilder plan = new StringBuilder("holes 60;field a laid 36 59 1;");
        for (int i = 0; i < 12; i++) {
            plan.append("word a w").append((char) ('a' + i)).append(' ').append(12 + i).append(';');
        }
        NotchedCards x = Check.made(plan.toString(), 1);
        for (int i = 0; i < 12; i++) {
            x.put(0, i);
        }
        return x;
    }

    private static void meansOfValues(Check check) {
        NotchedCards x = Check.made(Check.PLAN, 1);
        check.due("sums of nothing: 0", x.means(0, 0, 1, 0, 0), 0);
        check.due("sums of nothing: 0", x.means(0, 0, 1, 0, 1), 1);
        check.due("pairs of nothing", x.means(0, 0, 2, 0, 0), -1);
        check.due("pairs of nothing", x.means(0, 0, 2, 0, 1), 0);
        check.due("pairs of nothing", x.means(0, 0, 2, 0, 2), 0);
        x.set(0, 1, 3);
        check.due("3", x.means(1, 0, 1, 0, 0), 3);
        check.due("1, 2 or 3", x.means(1, 0, 1, 1, 1), 14);
        check.due("1, 2 or 3", x.means(1, 0, 1, 1, 0), -1);
        check.due("1, 2 or 3", x.means(1, 0, 1, 1, 2), 3);
        check.due("0 to 3", x.means(1, 0, 1, 2, 1), 15);
        x.set(0, 2, 0);
        x.tear(0, 12, false);
        check.due("7, 4 and 0 of pairs: none", x.means(3, 0, 2, 0, 2), 0);
        check.due("7, 4 and 0 of pairs: with one torn", x.means(3, 0, 2, 1, 1), 1 | 1 << 4 | 1 << 7);
        x.set(0, 0, 3);
        check.due("one", x.means(4, 0, 0, 0, 0), 3);
        x.set(0, 0, 0);
        check.due("two holes of one", x.means(5, 0, 0, 0, 2), 0);
        check.due("two holes of one", x.means(5, 0, 0, 1, 1), 9);
        NotchedCards y = Check.made("holes 60;field a one 36 59;", 1);
        y.set(0, 0, 23);
        check.due("the last value", y.means(1, 0, 0, 0, 1), 1 << 23);
    }
}
