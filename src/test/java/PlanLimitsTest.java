/** Terms 1 and promise 3, sentence by sentence: each limit of a plan, and one beyond it. In a faulty text ^ marks the place. */
public final class PlanLimitsTest {
    private static final String[] LANGUAGE = {"holes", "field", "word", "one", "sums", "pairs", "laid",
        "pass", "to", "by", "join", "again", "not", "and", "or"};

    private final Check check = new Check("PlanLimitsTest");

    public static void main(String[] args) {
        PlanLimitsTest test = new PlanLimitsTest();
        test.linesEndWithTheirSign();
        test.holesFromTenToSixty();
        test.holesFromZeroOn();
        test.lettersOfWords();
        test.wordsOfTheLanguages();
        test.digits();
        test.blanks();
        test.eightFields();
        test.holesOfNoOtherField();
        test.fieldsOfOne();
        test.fieldsOfSums();
        test.fieldsOfPairs();
        test.fieldsLaid();
        test.twelveWords();
        test.codesOfWords();
        test.namesToldAlready();
        test.fieldsNotToldAhead();
        test.moreMustCome();
        test.tokensThatCannotStand();
        test.theFirstFaultAlongTheText();
        test.theLeastFaultOfAPlace();
        test.anEmptyPlan();
        test.aPlanTakesWhatWasThere();
        test.check.end();
    }

    private NotchedCards right(String text, int lines) {
        NotchedCards x = new NotchedCards();
        check.due(text, Check.plan(x, text), lines);
        check.fault(x, text, 0, -1);
        return x;
    }

    /** "A PLAN, a TEXT: { LINE ';' }." */
    private void linesEndWithTheirSign() {
        right("", 0);
        right("holes 10;", 1);
        right("holes 10;field a one 0 1;", 2);
        check.planFault(1, "^;");
        check.planFault(1, "holes 10^");
        check.planFault(1, "holes 10;^;");
        check.planFault(1, "holes 10;field a one 0 1^");
        check.planFault(1, "holes 10 ^field a one 0 1;");
        check.planFault(1, "holes 10;field a one 0 1;^;");
    }

    /** "The first LINE is holes N (10 .. 60)"; "a number beyond what is said"; "told already: holes (at the word)". */
    private void holesFromTenToSixty() {
        for (int n = 0; n <= 110; n++) {
            if (n >= 10 && n <= 60) {
                check.due("holes " + n, right("holes " + n + ";", 1).count(0), n);
            } else {
                check.planFault(2, "holes ^" + n + ";");
            }
        }
        check.planFault(1, "^field a one 0 1;holes 10;");
        check.planFault(1, "^word a b 0;holes 10;");
        check.planFault(1, "^10;");
        check.planFault(3, "holes 10;^holes 10;");
        check.planFault(3, "holes 10;^holes 9;");
        check.planFault(3, "holes 10;field a one 0 1;^holes 20;");
    }

    /** "HOLES 0 .. N less 1": at the last hole, and one beyond it. */
    private void holesFromZeroOn() {
        int[] sizes = {10, 11, 33, 59, 60};
        for (int n : sizes) {
            String holes = "holes " + n + ";field a ";
            NotchedCards x = right(holes + "one " + (n - 2) + " " + (n - 1) + ";", 2);
            x.card();
            check.due("the first hole", x.tear(0, 0, false), 0);
            check.due("the last hole", x.tear(0, n - 1, false), 1);
            check.due("beyond the last hole", x.tear(0, n, false), -1);
            check.due("ahead of the first hole", x.tear(0, -1, false), -1);
            check.due("notched", x.notched(2, 0), 1L << n - 1 | 1);
            check.due("a hole as a needle", Check.work(x, "pass a to b c by " + (n - 1) + ";"), 0);
            check.due("no hole as a needle", Check.work(x, "pass a to b c by " + n + ";"), -1);
            check.fault(x, "no hole as a needle", 2, 17);
            check.due("the last hole of a field", Seen.look(x, 0, 2), n - 1);
            right(holes + "one 0 1;", 2);
            check.planFault(2, holes + "one " + (n - 2) + " ^" + n + ";");
            check.planFault(2, holes + "one ^" + n + " " + (n + 1) + ";");
            right(holes + "laid " + (n - 1) + " " + (n - 1) + " 1;", 2);
            right(holes + "laid 0 0 1;", 2);
            check.planFault(2, holes + "laid " + (n - 1) + " ^" + n + " 1;");
            check.planFault(2, holes + "laid ^" + n + " " + n + " 1;");
        }
    }

    /** "Words: small letters in a row; W: one of 1 .. 6 letters"; "a word of more than 6 letters, too". */
    private void lettersOfWords() {
        for (char letter = 'a'; letter <= 'z'; letter++) {
            NotchedCards x = right("holes 10;field " + letter + " one 0 1;", 2);
            check.due("field " + letter, x.named(0, letter - 'a' + 1 << 25), 0);
        }
        String[] names = {"x", "xy", "xyz", "xyza", "xyzab", "xyzabc"};
        for (String name : names) {
            NotchedCards x = right("holes 10;field " + name + " laid 0 1 1;word " + name + " q 0;", 3);
            check.due("field " + name, x.named(0, Check.packed(name)), 0);
            NotchedCards y = right("holes 10;field q laid 0 1 1;word q " + name + " 0;", 3);
            check.due("word " + name, y.named(1, Check.packed(name)), 0);
        }
        String[] long7 = {"abcdefg", "abcdefgh", "holesholes", "a".repeat(300)};
        for (String name : long7) {
            check.planFault(1, "^" + name);
            check.planFault(1, "holes 10;^" + name);
            check.planFault(1, "holes 10;field ^" + name + " one 0 1;");
            check.planFault(1, "holes 10;field a ^" + name + " 0 1;");
            check.planFault(1, "holes 10;field q laid 0 1 1;word ^" + name + " b 0;");
            check.planFault(1, "holes 10;field q laid 0 1 1;word q ^" + name + " 0;");
        }
        check.planFault(1, "holes 10;field abcdef laid 0 1 1;word ^abcdefg b 0;");
        // The signs beside the small letters and the digits, and capital letters.
        char[] others = {'a' - 1, 'z' + 1, 'A', 'Z', '0' - 1, '9' + 1, '_', '-', '.', ','};
        for (char other : others) {
            check.planFault(1, "holes 10;field ^" + other + " one 0 1;");
            check.planFault(1, "holes 10;field a^" + other + " one 0 1;");
            check.planFault(1, "holes ^" + other + "10;");
        }
    }

    /** "none of those of the language (of the work, of questions neither)". */
    private void wordsOfTheLanguages() {
        for (String word : LANGUAGE) {
            check.planFault(1, "holes 10;field ^" + word + " one 0 1;");
            check.planFault(1, "holes 10;field a laid 0 1 1;word ^" + word + " b 0;");
            check.planFault(1, "holes 10;field a laid 0 1 1;word a ^" + word + " 0;");
            String shorter = word.substring(0, word.length() - 1);
            right("holes 10;field " + shorter + " one 0 1;", 2);
            if (word.length() < 6) {
                right("holes 10;field " + word + "s one 0 1;", 2);
                right("holes 10;field x" + word + " one 0 1;", 2);
            }
        }
    }

    /** "N: digits, 0 .. 99": zeros ahead don't count, and no number of digits comes back round. */
    private void digits() {
        check.due("zeros ahead", right("holes 0012;", 1).count(0), 12);
        check.due("many zeros ahead", right("holes " + "0".repeat(400) + "60;", 1).count(0), 60);
        String[] large = {"99", "100", "110", "256", "266", "65546", "2147483647", "4294967306", "18446744073709551626",
            "1" + "0".repeat(40), "9".repeat(400)};
        for (String number : large) {
            check.planFault(2, "holes ^" + number + ";");
            check.planFault(2, "holes 10;field a one ^" + number + " 1;");
            check.planFault(2, "holes 10;field a one 0 ^" + number + ";");
            check.planFault(2, "holes 10;field a sums ^" + number + ";");
            check.planFault(2, "holes 10;field a pairs ^" + number + ";");
            check.planFault(2, "holes 10;field a laid 0 1 ^" + number + ";");
            check.planFault(2, "holes 10;field a laid 0 1 1;word a b ^" + number + ";");
        }
        check.planFault(2, "holes ^1 0;");
        check.planFault(1, "holes 10 ^0;");
    }

    /** "Blanks 10, 32.": each other byte is a token, or none. */
    private void blanks() {
        for (int b = 0; b < 256; b++) {
            NotchedCards x = new NotchedCards();
            String text = "holes" + (char) b + " 20;";
            int got = Check.plan(x, text);
            boolean isBlank = b == 10 || b == 32;
            boolean isLetter = b >= 'a' && b <= 'z';
            boolean isDigit = b >= '0' && b <= '9';
            check.due("byte " + b, got, isBlank ? 1 : -1);
            int fault = isDigit ? 2 : 1;
            int place = isLetter ? 0 : 5;
            check.fault(x, "byte " + b, isBlank ? 0 : fault, isBlank ? -1 : place);
        }
        right(" \n holes\n\n10 ; field\na   one\n0\n1\n;\n ", 2);
        right("holes10;field\na one0 1;field b sums2;", 3);
        check.planFault(1, "holes 10;^fieldb sums 2;");
        check.planFault(1, "^ho les 10;");
        check.planFault(1, "holes 10;field a ^on e 0 1;");
    }

    /** "FIELDS, at most 8, numbered as they come"; "a ninth field ... (at the word of the LINE)". */
    private void eightFields() {
        StringBuilder plan = new StringBuilder("holes 60;");
        String kinds = "one 0 1,sums 2,pairs 6,laid 11 12 1,one 13 20,laid 21 21 1,sums 22,laid 30 40 3";
        int fields = 0;
        for (String kind : kinds.split(",")) {
            plan.append("field f").append((char) ('a' + fields)).append(' ').append(kind).append(';');
            fields++;
            NotchedCards x = right(plan.toString(), fields + 1);
            check.due("fields", x.count(1), fields);
            check.due("numbered as they come", x.named(0, Check.packed("f" + (char) ('a' + fields - 1))), fields - 1);
            check.due("the last one", Seen.look(x, fields - 1, 0) >= 0 ? 1 : 0, 1);
            check.due("none behind it", Seen.look(x, fields, 0), -100);
        }
        check.planFault(2, plan + "^field g one 50 51;");
        check.planFault(2, plan + "^field");
        check.planFault(2, plan + "^field fa one 0 1;");
        right(plan + "word fd x 0;word fh y 0 1 2;", 11);
    }

    /** "of HOLES that no other FIELD has"; "at A, if sums or pairs or A itself is one, else at B". */
    private void holesOfNoOtherField() {
        String taken = "holes 40;field x one 10 14;field y ";
        right(taken + "one 8 9;", 3);
        right(taken + "one 15 16;", 3);
        check.planFault(3, taken + "one 9 ^10;");
        check.planFault(3, taken + "one 8 ^12;");
        check.planFault(3, taken + "one 8 ^14;");
        check.planFault(3, taken + "one 8 ^20;");
        check.planFault(3, taken + "one ^10 20;");
        check.planFault(3, taken + "one ^12 13;");
        check.planFault(3, taken + "one ^14 20;");
        right(taken + "laid 9 9 1;", 3);
        right(taken + "laid 15 15 1;", 3);
        check.planFault(3, taken + "laid ^10 10 1;");
        check.planFault(3, taken + "laid ^14 14 1;");
        check.planFault(3, taken + "laid 0 ^10 1;");
        check.planFault(3, taken + "laid 9 ^15 1;");
        right(taken + "sums 6;", 3);
        right(taken + "sums 15;", 3);
        check.planFault(3, taken + "sums ^7;");
        check.planFault(3, taken + "sums ^10;");
        check.planFault(3, taken + "sums ^14;");
        right(taken + "pairs 5;", 3);
        right(taken + "pairs 15;", 3);
        check.planFault(3, taken + "pairs ^6;");
        check.planFault(3, taken + "pairs ^14;");
        String last = "holes 60;field x one 58 59;field y ";
        right(last + "sums 54;", 3);
        check.planFault(3, last + "sums ^55;");
        check.planFault(3, last + "one 57 ^58;");
        check.planFault(3, last + "one ^59 59;");
        String sums = "holes 40;field x sums 10;field y one ";
        right(sums + "14 15;", 3);
        check.planFault(3, sums + "^13 15;");
        String pairs = "holes 40;field x pairs 10;field y one ";
        right(pairs + "15 16;", 3);
        check.planFault(3, pairs + "^14 16;");
        String laid = "holes 40;field x laid 10 33 2;field y one ";
        right(laid + "34 35;", 3);
        check.planFault(3, laid + "^33 35;");
    }

    /** "one A B: HOLES A .. B (2 .. 24), VALUES 0 .. B less A: its CODE is the HOLE A and VALUE." */
    private void fieldsOfOne() {
        for (int width = 2; width <= 24; width++) {
            NotchedCards x = right("holes 60;field a one 30 " + (29 + width) + ";", 2);
            x.card();
            check.due("KIND", Seen.look(x, 0, 0), 0);
            check.due("first hole", Seen.look(x, 0, 1), 30);
            check.due("last hole", Seen.look(x, 0, 2), 29 + width);
            check.due("VALUES", Seen.look(x, 0, 3), width);
            check.due("the first code", x.code(0, 0), 1L << 30);
            check.due("the last code", x.code(0, width - 1), 1L << 29 + width);
            check.due("no code", x.code(0, width), 0);
            check.due("no code", x.code(0, -1), 0);
            check.due("the last value", x.set(0, 0, width - 1), 0);
            check.due("no value", x.set(0, 0, width), -1);
            check.due("notched", x.notched(1, 0), 1L << 29 + width);
            check.due("a question of the last value", Check.question(x, "a = " + (width - 1)), 1);
            check.due("a question of no value", Check.question(x, "a = " + width), -1);
            check.fault(x, "a question of no value", 2, 4);
        }
        check.planFault(2, "holes 60;field a one 30 ^30;");
        check.planFault(2, "holes 60;field a one 30 ^29;");
        check.planFault(2, "holes 60;field a one 30 ^0;");
        check.planFault(2, "holes 60;field a one 30 ^54;");
        check.planFault(2, "holes 60;field a one 30 ^59;");
        check.planFault(2, "holes 60;field a one 0 ^24;");
        right("holes 60;field a one 0 23;", 2);
    }

    /** "sums A: HOLES A .. A and 3 (for 7, 4, 2, 1), VALUES 0 .. 9: those HOLES, two at most, that add up to it." */
    private void fieldsOfSums() {
        int[] sizes = {10, 60};
        for (int n : sizes) {
            NotchedCards x = right("holes " + n + ";field a sums " + (n - 4) + ";", 2);
            x.card();
            check.due("KIND", Seen.look(x, 0, 0), 1);
            check.due("first hole", Seen.look(x, 0, 1), n - 4);
            check.due("last hole", Seen.look(x, 0, 2), n - 1);
            check.due("VALUES", Seen.look(x, 0, 3), 10);
            adds(x, new int[] {7, 4, 2, 1}, n - 4, false);
            check.due("value 0", x.set(0, 0, 0), 0);
            check.due("value 9", x.set(0, 0, 9), 1);
            check.due("value 10", x.set(0, 0, 10), -1);
            check.due("value -1", x.set(0, 0, -1), -1);
            check.due("code of 10", x.code(0, 10), 0);
            check.due("code of 11", x.code(0, 11), 0);
            check.due("code of -1", x.code(0, -1), 0);
            check.planFault(2, "holes " + n + ";field a sums ^" + (n - 3) + ";");
            check.planFault(2, "holes " + n + ";field a sums ^" + (n - 1) + ";");
            check.planFault(2, "holes " + n + ";field a sums ^" + n + ";");
            right("holes " + n + ";field a sums 0;", 2);
        }
        check.planFault(1, "holes 60;field a sums 0 ^3;");
    }

    /** "pairs A: A .. A and 4 (7, 4, 2, 1, 0): two that add up to it, 7 and 4 for 0." */
    private void fieldsOfPairs() {
        int[] sizes = {10, 60};
        for (int n : sizes) {
            NotchedCards x = right("holes " + n + ";field a pairs " + (n - 5) + ";", 2);
            x.card();
            check.due("KIND", Seen.look(x, 0, 0), 2);
            check.due("first hole", Seen.look(x, 0, 1), n - 5);
            check.due("last hole", Seen.look(x, 0, 2), n - 1);
            check.due("VALUES", Seen.look(x, 0, 3), 10);
            adds(x, new int[] {7, 4, 2, 1, 0}, n - 5, true);
            check.due("value 0", x.set(0, 0, 0), 0);
            check.due("value 9", x.set(0, 0, 9), 1);
            check.due("value 10", x.set(0, 0, 10), -1);
            check.due("value -1", x.set(0, 0, -1), -1);
            check.due("code of 10", x.code(0, 10), 0);
            check.due("code of 11", x.code(0, 11), 0);
            check.due("code of -1", x.code(0, -1), 0);
            check.planFault(2, "holes " + n + ";field a pairs ^" + (n - 4) + ";");
            check.planFault(2, "holes " + n + ";field a pairs ^" + (n - 1) + ";");
            check.planFault(2, "holes " + n + ";field a pairs ^" + n + ";");
            right("holes " + n + ";field a pairs 0;", 2);
        }
        check.planFault(1, "holes 60;field a pairs 0 ^4;");
    }

    private void adds(NotchedCards x, int[] parts, int first, boolean two) {
        for (int value = 0; value < 10; value++) {
            long code = x.code(0, value);
            int sum = 0;
            for (int i = 0; i < parts.length; i++) {
                sum += (code >> first + i & 1) != 0 ? parts[i] : 0;
            }
            check.due("holes of " + value, code & ~((1L << parts.length) - 1 << first), 0);
            check.due("sum of " + value, sum, two && value == 0 ? 11 : value);
            int size = Long.bitCount(code);
            check.due("how many holes of " + value, two ? size : Math.min(size, 2), two ? 2 : size);
        }
    }

    /** "laid A B K: HOLES A .. B (1 .. 24), K 1 .. 4, but not more than there are HOLES". */
    private void fieldsLaid() {
        for (int width = 1; width <= 24; width++) {
            for (int k = 0; k <= 5; k++) {
                String text = "holes 60;field a laid 36 " + (35 + width) + " ";
                if (k >= 1 && k <= 4 && k <= width) {
                    NotchedCards x = right(text + k + ";", 2);
                    check.due("KIND", Seen.look(x, 0, 0), 3);
                    check.due("first hole", Seen.look(x, 0, 1), 36);
                    check.due("last hole", Seen.look(x, 0, 2), 35 + width);
                    check.due("K", Seen.look(x, 0, 3), k);
                    check.due("a laid field has no values", x.code(0, 0), 0);
                } else {
                    check.planFault(2, text + "^" + k + ";");
                }
            }
        }
        check.planFault(2, "holes 60;field a laid 36 ^35 1;");
        check.planFault(2, "holes 60;field a laid 1 ^0 1;");
        check.planFault(2, "holes 60;field a laid 0 ^24 1;");
        check.planFault(2, "holes 60;field a laid 35 ^59 1;");
        right("holes 60;field a laid 0 23 1;", 2);
    }

    /** "a WORD of it (at most 12 in all, numbered as they come)"; "a 13th word (at the word of the LINE)". */
    private void twelveWords() {
        StringBuilder plan = new StringBuilder("holes 60;field a laid 0 23 1;field b laid 24 47 2;");
        for (int i = 0; i < 12; i++) {
            String name = "w" + (char) ('a' + i);
            plan.append(i % 3 == 0 ? "word b " + name + " 22 23;" : "word a " + name + " 23;");
            NotchedCards x = right(plan.toString(), i + 4);
            check.due("words", x.count(2), i + 1);
            check.due("numbered as they come", x.named(1, Check.packed(name)), i);
            check.due("a code", x.coded(0, i), i % 3 == 0 ? 3L << 46 : 1L << 23);
            check.due("no code", x.coded(0, i + 1), 0);
        }
        check.planFault(2, plan + "^word a x 0;");
        check.planFault(2, plan + "^word");
        check.planFault(2, plan + "^word c x 0;");
        right(plan + "field c one 50 51;", 16);
    }

    /** "its CODE: K unlike ones of its FIELD's HOLES, told from 0 on"; "a HOLE of a word more than K"; faults 3 and 5. */
    private void codesOfWords() {
        String[] rows = {"", "23", "23 0", "23 0 11", "23 0 11 1"};
        long[] codes = {0, 1L << 59, 1L << 59 | 1L << 36, 1L << 59 | 1L << 36 | 1L << 47, 1L << 59 | 3L << 36 | 1L << 47};
        for (int k = 1; k <= 4; k++) {
            String plan = "holes 60;field a laid 36 59 " + k + ";word a w ";
            String told = rows[k];
            NotchedCards x = right(plan + told + ";", 3);
            check.due("code of " + told, x.coded(0, 0), codes[k]);
            check.planFault(2, plan + told + " ^2;");
            check.planFault(2, plan + told + " ^23;");
            check.planFault(2, plan + told + " ^24;");
            check.planFault(1, plan + "^;");
            check.planFault(1, plan + told + "^");
            check.planFault(2, plan + "^24;");
            String fewer = rows[k - 1];
            if (k > 1) {
                check.planFault(5, plan + fewer + "^;");
                check.planFault(1, plan + fewer + "^");
                check.planFault(1, plan + fewer + " ^b;");
                check.planFault(3, plan + fewer + " ^23;");
                check.planFault(2, plan + fewer + " ^24;");
            }
        }
        right("holes 10;field a laid 4 4 1;word a b 0;", 3);
        check.planFault(2, "holes 10;field a laid 4 4 1;word a b ^1;");
        check.planFault(2, "holes 10;field a laid 4 4 1;word a b 0 ^0;");
        NotchedCards full = right("holes 10;field a laid 4 7 4;word a b 3 2 1 0;", 3);
        check.due("all holes", full.coded(0, 0), 15L << 4);
    }

    /** "told already: ... a name (of a FIELD or WORD, at W)". */
    private void namesToldAlready() {
        String plan = "holes 40;field a laid 0 3 1;field b one 4 5;word a c 0;";
        check.planFault(3, plan + "field ^a one 6 7;");
        check.planFault(3, plan + "field ^b one 6 7;");
        check.planFault(3, plan + "field ^c one 6 7;");
        check.planFault(3, plan + "word a ^a 0;");
        check.planFault(3, plan + "word a ^b 0;");
        check.planFault(3, plan + "word a ^c 0;");
        right(plan + "field d one 6 7;word a e 0;", 6);
        right("holes 40;field ab one 0 1;field abc one 2 3;field b one 4 5;", 4);
    }

    /** "4 a FIELD that isn't told ahead or isn't laid (at W)." */
    private void fieldsNotToldAhead() {
        check.planFault(4, "holes 40;word ^a b 0;field a laid 0 3 1;");
        check.planFault(4, "holes 40;field a one 0 3;word ^a b 0;");
        check.planFault(4, "holes 40;field a sums 0;word ^a b 0;");
        check.planFault(4, "holes 40;field a pairs 0;word ^a b 0;");
        check.planFault(4, "holes 40;field a laid 0 3 1;word a b 0;word ^b c 0;");
        right("holes 40;field a laid 0 3 1;word a b 0;", 3);
    }

    /** "(the length, if more must come)": each plan that is broken off behind a token, blanks behind it or not. */
    private void moreMustCome() {
        String[] tokens = "holes 30 ; field kind one 0 3 ; field year sums 4 ; field no pairs 8 ; field top laid 13 22 3 ; word top iron 0 1 5 ;".split(" ");
        StringBuilder text = new StringBuilder();
        int lines = 0;
        for (String token : tokens) {
            text.append(token);
            lines += token.equals(";") ? 1 : 0;
            if (token.equals(";")) {
                right(text.toString(), lines);
                right(text + " \n", lines);
            } else {
                check.planFault(1, text + "^");
                check.planFault(1, text + " \n^");
            }
            text.append(' ');
        }
    }

    /** "1 a TOKEN that is none ... or can't stand there". */
    private void tokensThatCannotStand() {
        String[] signs = {"(", ")", "=", "#"};
        String[] tokens = "holes 30 ; field top laid 13 22 2 ; word top iron 0 1 ;".split(" ");
        for (String sign : signs) {
            StringBuilder text = new StringBuilder();
            for (String token : tokens) {
                check.planFault(1, text + "^" + sign);
                text.append(token).append(' ');
            }
            check.planFault(1, text + "^" + sign);
        }
        for (String word : LANGUAGE) {
            if (!word.equals("holes")) {
                check.planFault(1, "^" + word);
            }
            boolean isLine = word.equals("holes") || word.equals("field") || word.equals("word");
            if (!isLine) {
                check.planFault(1, "holes 10;^" + word);
            }
            boolean isKind = word.equals("one") || word.equals("sums") || word.equals("pairs") || word.equals("laid");
            if (!isKind) {
                check.planFault(1, "holes 10;field a ^" + word);
            }
            check.planFault(1, "holes ^" + word);
            check.planFault(1, "holes 10 ^" + word);
        }
        check.planFault(1, "^a");
        check.planFault(1, "^0");
        check.planFault(1, "holes 10;^a");
        check.planFault(1, "holes 10;^0");
        check.planFault(1, "holes 10;^100");
        check.planFault(1, "holes 10;field ^0");
        check.planFault(1, "holes 10;field ^100");
        check.planFault(1, "holes 10;field ^;");
        check.planFault(1, "holes 10;field a ^a");
        check.planFault(1, "holes 10;field a ^0");
        check.planFault(1, "holes 10;field a ^;");
        check.planFault(1, "holes 10;field a one ^;");
        check.planFault(1, "holes 10;field a one ^a");
        check.planFault(1, "holes 10;field a one 0 ^;");
        check.planFault(1, "holes 10;field a one 0 1 ^1;");
        check.planFault(1, "holes 10;field a one 0 1 ^100;");
        check.planFault(1, "holes 10;field a laid 0 1 ^;");
        check.planFault(1, "holes 10;field a laid 0 1 1 ^1;");
        check.planFault(1, "holes 10;field a laid 0 1 1;word ^0 b 0;");
        check.planFault(1, "holes 10;field a laid 0 1 1;word ^; b 0;");
        check.planFault(1, "holes 10;field a laid 0 1 1;word a ^0;");
        check.planFault(1, "holes 10;field a laid 0 1 1;word a ^;");
        check.planFault(1, "holes 10;field a laid 0 1 1;word a b ^c;");
        check.planFault(1, "holes 10;field a laid 0 1 1;word a b 0 ^c;");
    }

    /** "FAULTS, the first along the text". */
    private void theFirstFaultAlongTheText() {
        check.planFault(2, "holes ^9;#");
        check.planFault(2, "holes ^61 holes");
        check.planFault(3, "holes 10;^holes 9;field a one 0 0;");
        check.planFault(2, "holes 10;field a one ^10 9;");
        check.planFault(2, "holes 10;field a one 0 ^0;holes");
        check.planFault(3, "holes 20;field a one 0 5;field b one ^5 5;");
        check.planFault(3, "holes 20;field a one 0 5;field b laid ^4 40 9;");
        check.planFault(4, "holes 20;field a one 0 5;word ^a a 99;");
        check.planFault(3, "holes 20;field a laid 0 5 2;word a ^a 99;");
        check.planFault(2, "holes 20;field a laid 0 5 2;word a b ^6;");
        check.planFault(3, "holes 20;field a laid 0 5 2;word a b 1 ^1 1;");
        check.planFault(5, "holes 20;field a laid 0 5 2;word a b 1^;holes 20;");
    }

    /** "(of one place the least)": where two faults meet. */
    private void theLeastFaultOfAPlace() {
        // 2 and 3: the last hole is none, the first one is another field's.
        check.planFault(2, "holes 12;field a one 8 9;field b sums ^9;");
        check.planFault(2, "holes 12;field a one 8 9;field b pairs ^8;");
        // 2 and 3 at B: too few, too many, none of the holes, and another field's.
        check.planFault(2, "holes 40;field a one 10 11;field b one 8 ^32;");
        check.planFault(2, "holes 40;field a one 10 11;field b one 8 ^40;");
        check.planFault(2, "holes 40;field a one 10 11;field b laid 8 ^32 1;");
        check.planFault(2, "holes 40;field a one 10 11;field b laid 12 ^11 1;");
        // 2 and 3: one more than K, and told already.
        check.planFault(2, "holes 20;field a laid 0 5 2;word a b 0 1 ^0;");
        check.planFault(2, "holes 20;field a laid 0 5 2;word a b 0 1 ^1;");
        // 1 and 5: fewer than K, but one must come.
        check.planFault(1, "holes 20;field a laid 0 5 2;word a b^;");
        check.planFault(1, "holes 20;field a laid 0 5 1;word a b^;");
    }

    /** "(An empty one: as at first.)" */
    private void anEmptyPlan() {
        String[] empty = {"", " ", "\n", " \n ".repeat(100)};
        for (String text : empty) {
            NotchedCards x = Check.made("holes 40;field kind one 0 3;field topic laid 13 22 2;word topic iron 0 1;", 3);
            Check.question(x, "iron");
            x.put(2, 0);
            x.turn(2);
            check.due("an empty plan", Check.plan(x, text), 0);
            check.dueText("an empty plan: as at first", Seen.of(x), Seen.of(new NotchedCards()));
            check.fault(x, "an empty plan", 0, -1);
            check.due("the first card", x.card(), 0);
            check.due("the last hole of ten", x.tear(0, 9, false), 0);
            check.due("an eleventh hole", x.tear(0, 10, false), -1);
        }
        NotchedCards tape = new NotchedCards();
        Check.feed(tape, "holes 20;holes 30;  ");
        check.due("plan(0)", tape.plan(0), 0);
        check.due("the tape is empty then", tape.plan(1), -2);
        check.due("the tape is empty then", tape.feed(0, 0, 0, 0, 0), 20);
    }

    /** "The TAPE's first n bytes (it is empty then) are the PLAN (no CARDS, NOTES, QUESTION then)". */
    private void aPlanTakesWhatWasThere() {
        String text = "holes 12;field kind one 0 2;";
        NotchedCards x = Check.made("holes 40;field kind one 0 3;field topic laid 13 22 2;word topic iron 0 1;", 30);
        Check.question(x, "iron");
        x.recode(0, 768);
        x.tear(29, 39, false);
        x.turn(29);
        Check.feed(x, text + "holes 99;");
        check.due("the first bytes", x.plan(text.length()), 2);
        check.dueText("nothing of what was there", Seen.of(x), Seen.of(Check.made(text, 0)));
        check.due("no rest on the tape", x.plan(1), -2);
        check.due("no question", x.ask(0, 0), -1);
        check.due("no notes", x.notched(1, 0), -1);
        check.due("cards anew", x.card(), 0);
        check.due("nothing is torn", x.notched(0, 0), 0);
        check.due("not turned", x.turned(), 0);
        check.due("notes anew", x.set(0, 0, 2), 0);
        check.dueRow("cards anew", x, 0, "0");
    }
}
