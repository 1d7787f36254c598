/** Promises 10 to 18: cards and notes, and what is known by them. */
public final class NotesTest {
    public static void main(String[] args) {
        Check check = new Check("NotesTest");
        wrongOnes(check);
        sets(check);
        tears(check);
        recodes(check);
        strikes(check);
        limits(check);
        check.end();
    }

    private static void wrongOnes(Check check) {
        NotchedCards x = Check.made(Check.PLAN, 2);
        check.due("set: no card", x.set(2, 0, 0), -1);
        check.due("set: no card", x.set(-1, 0, 0), -1);
        check.due("set: no field", x.set(0, 4, 0), -1);
        check.due("set: no field", x.set(0, -1, 0), -1);
        check.due("set: laid", x.set(0, 3, 0), -1);
        check.due("set: no value", x.set(0, 0, 4), -1);
        check.due("set: no value", x.set(0, 1, 10), -1);
        check.due("set: no value", x.set(0, 0, -1), -1);
        check.due("put: no card", x.put(2, 0), -1);
        check.due("put: no card", x.put(-1, 0), -1);
        check.due("put: no word", x.put(0, 3), -1);
        check.due("put: no word", x.put(0, -1), -1);
        check.due("tear: no card", x.tear(2, 0, true), -1);
        check.due("tear: no hole", x.tear(0, 30, false), -1);
        check.due("tear: no hole", x.tear(0, -1, true), -1);
        check.due("recode: no word", x.recode(3, 3), -1);
        check.due("recode: no word", x.recode(-1, 3), -1);
        int[] bits = {0, 1, 7, 1024, 1025, 1 << 31 | 1, -1, 3 << 30};
        for (int b : bits) {
            check.due("recode: " + b, x.recode(0, b), -1);
        }
        check.due("strike: no note", x.strike(0), -1);
        check.due("strike: no note", x.strike(-1), -1);
        check.due("no notes", x.count(4), 0);
        check.due("notched: n", x.notched(1, 0), -1);
        check.due("notched: n", x.notched(-1, 0), -1);
        check.due("notched: card", x.notched(0, 2), -1);
        check.due("notched: card", x.notched(0, -1), -1);
        check.due("truly: n", x.truly(1, 0, 0), -2);
        check.due("truly: n", x.truly(-1, 0, 0), -2);
        check.due("truly: card", x.truly(0, 2, 0), -2);
        check.due("truly: card", x.truly(0, -1, 0), -2);
        check.due("truly: field", x.truly(0, 0, 4), -2);
        check.due("truly: field", x.truly(0, 0, -1), -2);
        check.due("coded: n", x.coded(1, 0), 0);
        check.due("coded: n", x.coded(-1, 0), 0);
        check.due("coded: word", x.coded(0, 3), 0);
        check.due("coded: word", x.coded(0, -1), 0);
    }

    private static void sets(Check check) {
        NotchedCards x = Check.made(Check.PLAN, 2);
        check.due("set", x.set(0, 1, 3), 0);
        check.due("set", x.set(0, 1, 9), 1);
        check.due("set", x.set(1, 2, 0), 2);
        check.due("put", x.put(0, 1), 3);
        check.due("put", x.put(0, 1), 4);
        check.due("truly, known by 0", x.truly(0, 0, 1), -1);
        check.due("truly, known by 1", x.truly(1, 0, 1), 3);
        check.due("truly, known by 2", x.truly(2, 0, 1), 9);
        check.due("the holes stay", x.notched(2, 0), 192 | 80);
        check.due("another card", x.truly(5, 1, 1), -1);
        check.due("no words", x.truly(3, 0, 3), 0);
        check.due("a word", x.truly(5, 0, 3), 2);
        check.due("notched", x.notched(5, 0), 192 | 80 | 3L << 15);
        check.due("notched", x.notched(5, 1), 768);
        check.due("a card of later has the notes", x.card(), 2);
        check.due("nothing of it", x.notched(5, 2), 0);
        NotchedCards y = Check.made("holes 60;field a laid 0 5 1;field b laid 54 59 1;word a x 0;word b y 5;word a z 5;", 1);
        y.put(0, 0);
        y.put(0, 1);
        y.put(0, 2);
        check.due("words of a field alone", y.truly(3, 0, 0), 5);
        check.due("words of a field alone", y.truly(3, 0, 1), 2);
        check.due("the last hole of sixty", y.notched(3, 0), 1L << 59 | 33);
    }

    private static void tears(Check check) {
        NotchedCards x = Check.made(Check.PLAN, 1);
        check.due("torn", x.tear(0, 29, false), 0);
        check.due("torn again", x.tear(0, 29, false), 1);
        check.due("mended", x.tear(0, 29, true), 2);
        check.due("set", x.set(0, 0, 2), 3);
        check.due("mended", x.tear(0, 2, true), 4);
        check.due("set anew", x.set(0, 0, 2), 5);
        long[] notched = {0, 1 << 29, 1 << 29, 0, 4, 0, 4};
        for (int n = 0; n < notched.length; n++) {
            check.due("known by " + n, x.notched(n, 0), notched[n]);
        }
        check.due("truly in spite of mending", x.truly(5, 0, 0), 2);
    }

    private static void recodes(Check check) {
        NotchedCards x = Check.made(Check.PLAN, 2);
        check.due("put", x.put(0, 0), 0);
        check.due("recode", x.recode(0, 1 | 1 << 9), 1);
        check.due("put", x.put(1, 0), 2);
        check.due("code of the plan", x.coded(0, 0), 3L << 13);
        check.due("code of the plan", x.coded(1, 0), 3L << 13);
        check.due("another code", x.coded(2, 0), 1L << 13 | 1L << 22);
        check.due("other words keep theirs", x.coded(2, 1), 3L << 15);
        check.due("by the code of then", x.notched(3, 0), 3L << 13);
        check.due("by the code of then", x.notched(3, 1), 1L << 13 | 1L << 22);
        check.due("strike of the code", x.strike(1), 3);
        check.due("its code again", x.coded(4, 0), 3L << 13);
        check.due("as if it had not been", x.notched(4, 1), 3L << 13);
        check.due("known by 3 it is", x.notched(3, 1), 1L << 13 | 1L << 22);
        check.due("the same code is one", x.recode(0, 3), 4);
    }

    private static void strikes(Check check) {
        NotchedCards x = Check.made(Check.PLAN, 1);
        x.set(0, 0, 1);
        x.set(0, 0, 2);
        check.due("strike 1", x.strike(1), 2);
        check.due("strike 2", x.strike(2), 3);
        check.due("strike 3", x.strike(3), 4);
        check.due("strike 1 once more", x.strike(1), 5);
        check.due("strike 4", x.strike(4), 6);
        check.due("strike 5", x.strike(5), 7);
        check.due("strike of itself", x.strike(8), -1);
        int[] truly = {-1, 1, 2, 1, 2, 1, 1, 1, 2};
        for (int n = 0; n < truly.length; n++) {
            check.due("known by " + n, x.truly(n, 0, 0), truly[n]);
        }
    }

    private static void limits(Check check) {
        NotchedCards x = Check.made(Check.PLAN, 1);
        for (int i = 0; i < 150; i++) {
            check.due("note " + i, i % 2 == 0 ? x.put(0, 0) : x.strike(i - 1), i);
        }
        check.due("a 151st: set", x.set(0, 0, 0), -1);
        check.due("a 151st: put", x.put(0, 0), -1);
        check.due("a 151st: tear", x.tear(0, 0, true), -1);
        check.due("a 151st: recode", x.recode(0, 3), -1);
        check.due("a 151st: strike", x.strike(0), -1);
        check.due("count", x.count(4), 150);
        check.due("known by 149", x.notched(149, 0), 3L << 13);
        check.due("known by 150", x.notched(150, 0), 0);
        check.due("known by 151", x.notched(151, 0), -1);
    }
}
