import java.util.NoSuchElementException;

/** Promises 1 and 2, 6 to 9 and 31; the face itself is in PrintedFaceTest. */
public final class FaceTest {
    public static void main(String[] args) {
        Check check = new Check("FaceTest");
        aNewObject(check);
        theTape(check);
        faults(check);
        names(check);
        looks(check);
        codes(check);
        counts(check);
        check.end();
    }

    private static void aNewObject(Check check) {
        NotchedCards x = new NotchedCards();
        int[] counts = {10, 0, 0, 0, 0, 0, 0, 0};
        for (int what = 0; what < counts.length; what++) {
            check.due("count(" + what + ") at first", x.count(what), counts[what]);
        }
        check.due("NONE", NotchedCards.NONE, -1);
        check.due("fault(0) at first", x.fault(0), 0);
        check.due("fault(1) at first", x.fault(1), -1);
        check.due("fault(2)", x.fault(2), -1);
        check.due("fault(-1)", x.fault(-1), -1);
        check.due("turned() at first", x.turned(), 0);
        check.due("ask at first", x.ask(0, 0), -1);
        check.due("plan(1) of an empty tape", x.plan(1), -2);
        check.due("work(1) of an empty tape", x.work(1), -2);
        check.due("question(1) of an empty tape", x.question(1), -2);
        check.due("plan(-1)", x.plan(-1), -2);
        check.due("tear(0, 0, false) without cards", x.tear(0, 0, false), -1);
        check.due("card()", x.card(), 0);
        check.due("the last hole of ten", x.tear(0, 9, false), 0);
        check.due("an eleventh hole", x.tear(0, 10, false), -1);
        check.due("notched(1, 0)", x.notched(1, 0), 512);
    }

    private static void theTape(Check check) {
        NotchedCards x = new NotchedCards();
        for (int i = 1; i <= 25; i++) {
            check.due("feed " + i, x.feed(0x20202020, 0x20202020, 0x0a0a0a0a, 0x20202020, 0x20202020), 20 * i);
        }
        check.due("feed beyond 500", x.feed(0, 0, 0, 0, 0), -1);
        check.due("more than there are", x.plan(501), -2);
        check.due("below 0", x.question(Integer.MIN_VALUE), -2);
        check.due("below 0", x.work(-1), -2);
        check.due("the tape stays", x.feed(0, 0, 0, 0, 0), -1);
        check.due("blanks alone are an empty plan", x.plan(500), 0);
        check.due("the tape is empty then", x.feed(0, 0, 0, 0, 0), 20);
        check.due("a byte 0 is no token", x.work(20), -1);
        check.fault(x, "a byte 0", 1, 0);
        check.due("the tape is empty with a fault, too", x.plan(1), -2);
        check.due("highest byte first", x.feed('(' << 24 | 255, 0, 0, 0, 0), 20);
        check.due("a question of (", x.question(1), -1);
        check.fault(x, "(", 1, 1);
        x.feed(0x20202020, 0xe1202020, 0, 0, 0);
        check.due("a byte above 127 is no token", x.plan(20), -1);
        check.fault(x, "a byte above 127", 1, 4);
    }

    private static void faults(Check check) {
        NotchedCards x = new NotchedCards();
        check.due("a wrong plan", Check.plan(x, "holes 9;"), -1);
        check.fault(x, "holes 9;", 2, 6);
        check.due("what there is not", x.plan(1), -2);
        check.fault(x, "-2 leaves the fault", 2, 6);
        check.due("no work", x.work(0), 0);
        check.fault(x, "work without fault", 0, -1);
        check.due("no question", x.question(0), -1);
        check.fault(x, "an empty question", 1, 0);
        check.due("an empty plan", x.plan(0), 0);
        check.fault(x, "an empty plan", 0, -1);
    }

    private static void names(Check check) {
        NotchedCards x = Check.made("holes 40;field a one 0 3;field zzzzzz laid 4 9 1;word zzzzzz az 0;word zzzzzz za 0;", 0);
        check.due("a", x.named(0, Check.packed("a")), 0);
        check.due("zzzzzz", x.named(0, Check.packed("zzzzzz")), 1);
        check.due("az", x.named(1, Check.packed("az")), 0);
        check.due("za", x.named(1, Check.packed("za")), 1);
        check.due("a word is no field", x.named(0, Check.packed("az")), -1);
        check.due("a field is no word", x.named(1, Check.packed("a")), -1);
        check.due("z", x.named(0, Check.packed("z")), -1);
        check.due("no such what", x.named(2, Check.packed("a")), -1);
        check.due("no such what", x.named(-1, Check.packed("a")), -1);
        check.due("no letters", x.named(0, 0), -1);
        check.due("letter told lowest", x.named(0, 1), -1);
        check.due("bits above", x.named(0, 1 << 25 | 1 << 30), -1);
    }

    private static void looks(Check check) {
        NotchedCards x = Check.made(Check.PLAN, 0);
        int[][] rows = {{0, 0, 3, 4}, {1, 4, 7, 10}, {2, 8, 12, 10}, {3, 13, 22, 2}};
        for (int field = 0; field < rows.length; field++) {
            for (int what = 0; what < 4; what++) {
                check.due("look(" + field + ", " + what + ")", look(x, field, what), rows[field][what]);
            }
            check.due("no such what", look(x, field, 4), -200);
            check.due("no such what", look(x, field, -1), -200);
        }
        check.due("no such field", look(x, 4, 0), -100);
        check.due("no such field", look(x, -1, 0), -100);
        check.due("neither", look(x, Integer.MAX_VALUE, 9), -100);
    }

    private static int look(NotchedCards x, int field, int what) {
        try {
            return x.look(field, what);
        } catch (IndexOutOfBoundsException e) {
            return -100;
        } catch (NoSuchElementException e) {
            return -200;
        }
    }

    private static void codes(Check check) {
        NotchedCards x = Check.made(Check.PLAN, 0);
        String[] sums = {"", "1", "2", "21", "4", "41", "42", "7", "71", "72"};
        String[] pairs = {"74", "10", "20", "21", "40", "41", "42", "70", "71", "72"};
        for (int value = 0; value < 10; value++) {
            check.due("sums of " + value, x.code(1, value), holes(sums[value], 4));
            check.due("pairs of " + value, x.code(2, value), holes(pairs[value], 8));
        }
        for (int value = 0; value < 4; value++) {
            check.due("one of " + value, x.code(0, value), 1L << value);
        }
        check.due("no such value", x.code(0, 4), 0);
        check.due("no such value", x.code(1, 10), 0);
        check.due("no such value", x.code(1, -1), 0);
        check.due("laid", x.code(3, 1), 0);
        check.due("no such field", x.code(4, 1), 0);
        check.due("no such field", x.code(-1, 1), 0);
        NotchedCards wide = Check.made("holes 60;field a one 36 59;", 0);
        check.due("the last hole of sixty", wide.code(0, 23), 1L << 59);
    }

    private static long holes(String parts, int first) {
        long bits = 0;
        for (int i = 0; i < parts.length(); i++) {
            bits |= 1L << (first + "74210".indexOf(parts.charAt(i)));
        }
        return bits;
    }

    private static void counts(Check check) {
        NotchedCards x = Check.made(Check.PLAN, 2);
        x.put(0, 1);
        Check.question(x, "not iron and not (wood or no = 9)");
        Check.work(x, "again 2(pass a to b c by 1;join b a;)");
        int[] counts = {30, 4, 3, 2, 1, 7, 2, 5};
        for (int what = 0; what < counts.length; what++) {
            check.due("count(" + what + ")", x.count(what), counts[what]);
        }
        check.due("count(8)", x.count(8), -1);
        check.due("count(-1)", x.count(-1), -1);
        Check.work(x, "join a a;");
        check.due("passes of the work that was done", x.count(6), 2);
        check.due("S of the work that was done", x.count(7), 5);
        check.due("a new plan", Check.plan(x, "holes 11;"), 1);
        int[] after = {11, 0, 0, 0, 0, 0, 2, 5};
        for (int what = 0; what < after.length; what++) {
            check.due("count(" + what + ") with a new plan", x.count(what), after[what]);
        }
    }
}
