/** Promises 29 and 30: behind and sort. */
public final class OrderTest {
    private static final String PLAN = "holes 40;field six one 0 5;field seven one 6 12;field year sums 13;field no pairs 17;field top laid 22 25 1;";

    public static void main(String[] args) {
        Check check = new Check("OrderTest");
        wrongOnes(check);
        behind(check);
        sorts(check);
        turnedOnes(check);
        check.end();
    }

    private static NotchedCards of(int field, int... values) {
        NotchedCards x = Check.made(PLAN, values.length);
        for (int c = 0; c < values.length; c++) {
            if (values[c] >= 0) {
                x.set(c, field, values[c]);
            }
        }
        return x;
    }

    private static void sorted(Check check, NotchedCards x, int field, int... row) {
        check.due("passes", x.sort(0, field, 0), row.length);
        for (int i = 0; i < row.length; i++) {
            check.due("pass " + i, x.sort(0, field, i + 1), row[i]);
        }
        check.due("behind the last", x.sort(0, field, row.length + 1), -1);
        check.due("far behind", x.sort(0, field, Integer.MAX_VALUE), -1);
    }

    private static void wrongOnes(Check check) {
        NotchedCards x = of(0, 3, 2);
        check.due("behind: no pack", x.behind(6, 0), -1);
        check.due("behind: no pack", x.behind(-1, 0), -1);
        check.due("behind: no field", x.behind(0, 5), -1);
        check.due("behind: no field", x.behind(0, -1), -1);
        check.due("behind: laid", x.behind(0, 4), -1);
        check.due("behind: of seven holes", x.behind(0, 1), 0);
        check.due("sort: no pack", x.sort(6, 0, 0), -1);
        check.due("sort: no pack", x.sort(-1, 0, 0), -1);
        check.due("sort: no field", x.sort(0, 5, 0), -1);
        check.due("sort: no field", x.sort(0, -1, 0), -1);
        check.due("sort: laid", x.sort(0, 4, 0), -1);
        check.due("sort: of seven holes", x.sort(0, 1, 0), -1);
        check.due("sort: no what", x.sort(0, 0, -1), -1);
        check.due("an empty pack", x.sort(1, 0, 0), 0);
        check.due("an empty pack", x.behind(1, 0), 0);
    }

    private static void behind(Check check) {
        check.due("in order", of(2, 1, 1, 2, 3).behind(0, 2), 0);
        check.due("the other way round", of(2, 9, 7, 5, 3).behind(0, 2), 3);
        check.due("like ones in any order", of(2, 3, 1, 1, 1).behind(0, 2), 1);
        check.due("none first", of(2, 3, -1, 4, -1, 5).behind(0, 2), 2);
        check.due("mixed", of(2, 3, 1, 4, 1, 5).behind(0, 2), 2);
        check.due("mixed", of(1, 6, 0, 1, 2, 0, 3).behind(0, 1), 2);
        NotchedCards x = of(2, 5, 4);
        check.due("two", x.behind(0, 2), 1);
        x.set(1, 2, 6);
        check.due("by the latest set", x.behind(0, 2), 0);
        x.strike(2);
        check.due("by all notes", x.behind(0, 2), 1);
    }

    private static void sorts(Check check) {
        sorted(check, of(2, 1, 2, 3), 2);
        sorted(check, of(2, 3, 1, 4, 1, 5), 2, 15, 14);
        sorted(check, of(2, 9, 8, 7, 6, 5, 4, 3, 2, 1, 0), 2, 16, 15, 14, 13);
        sorted(check, of(2, 1, 0), 2, 16);
        sorted(check, of(2, 7, 0), 2, 13);
        sorted(check, of(2, 8, 0), 2, 13);
        // 9 is of 7 and 2, 2 of 2 alone.
        sorted(check, of(2, 9, 2), 2, 13);
        sorted(check, of(0, 5, 4, 3, 2, 1, 0), 0, 1, 2, 3, 4, 5);
        sorted(check, of(0, 5, 4, 3, 2, 1, 0, -1), 0, 0, 1, 2, 3, 4, 5);
        sorted(check, of(0, 1, 0, 3, 2), 0, 1, 2, 3);
        sorted(check, of(0, 1, 0, 1, 0), 0, 1);
        sorted(check, of(3, 2, 1), 3, 19);
        NotchedCards zero = of(3, 1, 0);
        sorted(check, zero, 3, 20);
        zero.tear(1, 20, false);
        sorted(check, zero, 3, 21);
        zero.tear(1, 21, false);
        check.due("no row: the lesser one drops by all holes", zero.sort(0, 3, 0), -2);
        check.due("no row, any what", zero.sort(0, 3, 1), -2);
        check.due("no row, any what", zero.sort(0, 3, 9), -2);
        check.due("no row, no what", zero.sort(0, 3, -1), -1);
        NotchedCards torn = of(0, 1, 0);
        torn.tear(1, 1, false);
        torn.tear(0, 0, false);
        check.due("alike at all holes", torn.sort(0, 0, 0), -2);
        torn.tear(0, 0, true);
        check.due("one by a torn hole", torn.sort(0, 0, 0), -2);
        // Two rows of two passes, 0 3 and 1 2; neither 0 1 nor 0 2 does.
        NotchedCards several = of(0, 2, 1, 0);
        several.tear(1, 3, false);
        several.tear(0, 0, false);
        several.tear(0, 3, false);
        sorted(check, several, 0, 0, 3);
        NotchedCards parted = of(0, 1, 1, 0);
        parted.tear(1, 1, true);
        parted.tear(1, 3, false);
        sorted(check, parted, 0, 1, 3);
        NotchedCards row = of(2, 3, 1, 4, 1, 5);
        check.due("the row as work", Check.work(row, "pass a to b a by 15;join b a;pass a to b a by 14;join b a;"), 0);
        check.dueRow("in order", row, 0, "1 3 0 2 4");
        sorted(check, row, 2);
    }

    private static void turnedOnes(Check check) {
        NotchedCards x = of(2, 3, 1);
        sorted(check, x, 2, 15);
        x.turn(0);
        check.due("turned over, it never drops", x.sort(0, 2, 0), -2);
        x.tear(0, 39 - 14, false);
        sorted(check, x, 2, 14);
        check.due("nothing is moved", x.pack(0, 0), 0);
        check.due("behind as ever", x.behind(0, 2), 1);
    }
}
