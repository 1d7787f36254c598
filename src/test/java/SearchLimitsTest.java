/** Terms 5 and 6 and promises 25 to 30, sentence by sentence: each limit, and one beyond it. */
public final class SearchLimitsTest {
    private static final String PLAN = "holes 30;field kind one 0 3;field year sums 4;field no pairs 8;field top laid 13 22 2;"
            + "word top iron 0 1;word top wood 2 3;word top clay 1 2;";
    private static final String ORDERS = "holes 60;field two one 0 1;field six one 2 7;field seven one 8 14;field year sums 15;field no pairs 19;"
            + "field top laid 24 25 1;field wide one 30 53;";

    private final Check check = new Check("SearchLimitsTest");

    public static void main(String[] args) {
        SearchLimitsTest test = new SearchLimitsTest();
        test.allWays();
        test.waysOfFewerAndMoreHoles();
        test.cardsThatHaveTheWord();
        test.falseDrops();
        test.bestOfFewestDrops();
        test.bestOfFewestShared();
        test.bestOfLeastBits();
        test.bestOfAllHoles();
        test.bestWithThirtyCardsAndTwelveWords();
        test.tornFromNoneToNine();
        test.setsOfWords();
        test.noSets();
        test.wordsOfAnEarlierPlan();
        test.valuesOfFields();
        test.valuesWithNineTorn();
        test.fewestMoves();
        test.noSuchOrders();
        test.rowsOfNoPasses();
        test.rowsOfFewestPasses();
        test.theFirstRowByNumbers();
        test.noRowDoes();
        test.turnedAsTheyAre();
        test.oneSortAfterAnother();
        test.check.end();
    }

    /** "by all ways to choose K"; promise 25. */
    private void allWays() {
        for (int width = 1; width <= 24; width++) {
            for (int k = 1; k <= Math.min(4, width); k++) {
                NotchedCards x = Check.made("holes 60;field a laid 36 " + (35 + width) + " " + k + ";word a w" + " 0 1 2 3".substring(0, 2 * k) + ";", 0);
                long ways = 1;
                for (int i = 0; i < k; i++) {
                    ways = ways * (width - i) / (i + 1);
                }
                check.due("all ways of " + k + " of " + width, x.likely(0, 0, 1), ways);
                check.due("the sum without cards", x.likely(0, 0, 0), 0);
                check.due("what 2", x.likely(0, 0, 2), -1);
                check.due("what -1", x.likely(0, 0, -1), -1);
                check.due("another word", x.likely(0, 1, 0), -1);
                check.due("another word", x.likely(0, -1, 1), -1);
            }
        }
    }

    /** "a sum of ways to choose K of those NOTCHED in the FIELD": fewer than K, K, more, all; and of no other field. */
    private void waysOfFewerAndMoreHoles() {
        long[][] ways = {{1, 2, 3, 4, 5}, {0, 1, 3, 6, 10}, {0, 0, 1, 4, 10}, {0, 0, 0, 1, 5}};
        for (int k = 1; k <= 4; k++) {
            NotchedCards x = Check.made("holes 60;field a laid 36 59 " + k + ";field b one 30 35;word a w" + " 0 1 2 3".substring(0, 2 * k) + ";", 2);
            x.set(0, 1, 5);
            check.due("none", x.likely(1, 0, 0), 0);
            for (int i = 0; i < 5; i++) {
                x.tear(0, 59 - 5 * i, false);
                check.due((i + 1) + " holes, K " + k, x.likely(i + 2, 0, 0), ways[k - 1][i]);
            }
            check.due("known by 3", x.likely(3, 0, 0), ways[k - 1][1]);
            NotchedCards full = Check.made("holes 60;field a laid 36 59 " + k + ";word a w" + " 0 1 2 3".substring(0, 2 * k) + ";", 30);
            for (int h = 36; h < 60; h++) {
                full.tear(0, h, false);
                full.tear(29, h, false);
            }
            check.due("all holes of two cards", full.likely(48, 0, 0), 2 * full.likely(48, 0, 1));
            check.due("falsely", full.falsely(48, 0), 2);
        }
    }

    /** "how many of CARDS that haven't it TRULY". */
    private void cardsThatHaveTheWord() {
        NotchedCards x = Check.made(PLAN, 30);
        for (int c = 0; c < 30; c++) {
            x.put(c, 2);
        }
        for (int c = 0; c < 29; c++) {
            x.put(c, 0);
        }
        check.due("likely of iron: one card of two holes", x.likely(59, 0, 0), 1);
        check.due("likely of wood: 29 of three holes, one of two", x.likely(59, 1, 0), 29 * 3 + 1);
        check.due("likely of clay: none", x.likely(59, 2, 0), 0);
        check.due("falsely of iron", x.falsely(59, 0), 0);
        check.due("falsely of wood", x.falsely(59, 1), 0);
        check.due("falsely of clay", x.falsely(59, 2), 0);
        check.due("falsely of clay, known by 0", x.falsely(0, 2), 0);
        x.strike(29);
        check.due("card 29 hasn't clay any more", x.likely(60, 2, 0), 0);
        x.tear(29, 14, false);
        x.tear(29, 15, false);
        check.due("but its holes", x.likely(62, 2, 0), 1);
        check.due("but its holes", x.falsely(62, 2), 1);
        x.strike(0);
        check.due("card 0 has iron: one hole of clay alone", x.falsely(63, 2), 1);
        check.due("a fourth word", x.falsely(63, 3), -1);
        check.due("word -1", x.falsely(63, -1), -1);
        check.due("known by 64", x.falsely(64, 0), -1);
    }

    /** Promise 26: "CARDS that haven't a WORD TRULY DROP by its CODE, as KNOWN by n": the code of then. */
    private void falseDrops() {
        NotchedCards x = Check.made(PLAN, 3);
        x.put(0, 0);
        x.put(0, 1);
        x.put(1, 2);
        x.recode(2, 3);
        x.tear(1, 14, true);
        int[] clay = {0, 0, 1, 1, 1, 1};
        int[] iron = {0, 0, 0, 0, 0, 0};
        for (int n = 0; n <= 5; n++) {
            check.due("clay by " + n, x.falsely(n, 2), clay[n]);
            check.due("iron by " + n, x.falsely(n, 0), iron[n]);
        }
        x.tear(2, 13, false);
        check.due("one of two holes", x.falsely(6, 2), 1);
        x.tear(2, 14, false);
        check.due("both", x.falsely(7, 2), 2);
        check.due("iron, too", x.falsely(7, 0), 1);
        check.due("of no notes", x.falsely(0, 2), 0);
    }

    /** "of all CODES of K HOLES that with which the fewest CARDS that haven't it TRULY DROP". */
    private void bestOfFewestDrops() {
        NotchedCards x = Check.made("holes 20;field a laid 5 8 1;word a p 0;word a q 3;", 4);
        int[][] torn = {{5, 6, 7}, {5, 6, 8}, {5, 7, 8}, {5, 7, 8}};
        for (int c = 0; c < 4; c++) {
            for (int hole : torn[c]) {
                x.tear(c, hole, false);
            }
        }
        // At 5 all four drop, at 6 two, at 7 three, at 8 three.
        check.due("two drop", x.best(12, 0), 2);
        check.due("two drop", x.best(12, 1), 2);
        x.put(2, 0);
        x.put(3, 0);
        // At 5 two, at 6 two, at 7 one, at 8 one (and q has it).
        check.due("one drops, none shared", x.best(14, 0), 4);
        check.due("of q, two that hadn't p", x.best(14, 1), 2);
        x.put(0, 0);
        check.due("none drops", x.best(15, 0), 4);
        x.put(1, 0);
        check.due("none that hasn't it: fewest shared, least", x.best(16, 0), 1);
        check.due("known by 0", x.best(0, 0), 1);
        check.due("known by 0", x.best(0, 1), 2);
        check.due("known by 17", x.best(17, 0), -1);
        check.due("word 2", x.best(16, 2), -1);
        check.due("word -1", x.best(16, -1), -1);
    }

    /** "of several that of which the HOLES share the fewest with other WORDS' CODES (a HOLE counted for each)". */
    private void bestOfFewestShared() {
        NotchedCards x = Check.made("holes 20;field a laid 5 8 2;field b laid 9 10 1;word a p 0 1;word a q 0 2;word a r 0 3;word a s 1 2;word b t 0;", 1);
        // Of p's others: 0 twice, 1 once, 2 twice, 3 once: 1 and 3 share two, the fewest.
        check.due("p", x.best(0, 0), 2 | 8);
        // Of s's others: 0 thrice, 1, 2 and 3 once each: the least bits of 1 2, 1 3, 2 3.
        check.due("s", x.best(0, 3), 2 | 4);
        // Of r's others: 0 twice, 1 twice, 2 twice, 3 never: 0 3, 1 3, 2 3 share two.
        check.due("r", x.best(0, 2), 1 | 8);
        x.recode(0, 12);
        // Of r's others then: 0 once, 1 once, 2 thrice, 3 once.
        check.due("r by the codes of then", x.best(1, 2), 1 | 2);
        check.due("r known by 0", x.best(0, 2), 1 | 8);
        x.recode(2, 3);
        check.due("r's own code is none of the others'", x.best(2, 2), 1 | 2);
        check.due("of another field none", x.best(2, 4), 1);
        NotchedCards twice = Check.made("holes 20;field a laid 0 2 1;word a p 0;word a q 0;word a r 1;word a s 2;word a t 2;", 0);
        check.due("a hole counted for each: 1 is once, 0 and 2 twice", twice.best(0, 0), 1);
        check.due("of r: 0 and 2 twice, 1 never", twice.best(0, 2), 2);
        check.due("of s: 0 twice, 1 and 2 once", twice.best(0, 3), 2);
    }

    /** "then the least bits (from the FIELD's first HOLE, lowest)". */
    private void bestOfLeastBits() {
        int[] least = {0, 1, 3, 7, 15};
        for (int k = 1; k <= 4; k++) {
            NotchedCards x = Check.made("holes 60;field a laid 36 59 " + k + ";word a w" + " 9 8 7 6".substring(0, 2 * k) + ";", 1);
            check.due("K " + k, x.best(0, 0), least[k]);
            for (int h = 36; h < 60; h++) {
                x.tear(0, h, false);
            }
            check.due("K " + k + ", all notched", x.best(24, 0), least[k]);
            x.tear(0, 59, true);
            int last = 1 << 23;
            check.due("K " + k + ", but the last hole", x.best(25, 0), last | least[k - 1]);
            x.tear(0, 38, true);
            check.due("K " + k + ", but the third and the last", x.best(26, 0), k == 1 ? 4 : k == 2 ? 5 : least[k]);
        }
        // 3 is less than 4 and 1, though the latter begins with the same hole.
        NotchedCards y = Check.made("holes 10;field a laid 0 3 2;word a p 0 1;", 0);
        check.due("least bits", y.best(0, 0), 3);
    }

    /** K as many as there are holes: one code alone. */
    private void bestOfAllHoles() {
        for (int k = 1; k <= 4; k++) {
            String told = " 0 1 2 3".substring(0, 2 * k);
            NotchedCards x = Check.made("holes 60;field a laid " + (60 - k) + " 59 " + k + ";word a v" + told + ";word a w" + told + ";", 2);
            for (int h = 60 - k; h < 60; h++) {
                x.tear(1, h, false);
            }
            check.due("one code alone", x.best(k, 0), (1 << k) - 1);
            check.due("one way alone", x.likely(k, 0, 1), 1);
            check.due("one card", x.likely(k, 0, 0), 1);
            check.due("one card", x.falsely(k, 1), 1);
        }
    }

    private void bestWithThirtyCardsAndTwelveWords() {
        StringBuilder plan = new StringBuilder("holes 60;field a laid 36 59 1;");
        for (int i = 0; i < 12; i++) {
            plan.append("word a w").append((char) ('a' + i)).append(' ').append(i).append(';');
        }
        NotchedCards x = Check.made(plan.toString(), 30);
        check.due("the first that no other has", x.best(0, 11), 1 << 11);
        check.due("the first that no other has", x.best(0, 0), 1);
        for (int c = 0; c < 30; c++) {
            x.put(c, c % 12);
        }
        check.due("its own", x.best(30, 11), 1 << 11);
        check.due("one that none has notched", x.best(30, 0), 1);
        x.tear(29, 47, false);
        check.due("wl: card 29 has its hole", x.best(31, 11), 1 << 12);
        check.due("falsely", x.falsely(31, 11), 1);
        check.due("falsely", x.falsely(31, 0), 0);
        for (int h = 48; h < 60; h++) {
            x.tear(29, h, false);
        }
        check.due("wl: as many elsewhere", x.best(43, 11), 1 << 11);
        check.due("wa", x.best(43, 0), 1);
        x.tear(0, 47, false);
        check.due("wl: one card beside two", x.best(44, 11), 1 << 12);
        check.due("sure of card 29", x.means(44, 29, 0, 9, 0), 0);
    }

    /** "MEANS of a CARD's laid FIELD with T torn (0 .. 9)"; "T NOTCHED HOLES of the FIELD at most are of none of them". */
    private void tornFromNoneToNine() {
        NotchedCards x = Check.made("holes 60;field a laid 36 59 1;word a p 0;field b one 0 23;", 1);
        int notes = 0;
        for (int torn = 0; torn <= 11; torn++) {
            for (int t = 0; t <= 9; t++) {
                check.due(torn + " holes, t " + t + ": sets", x.means(notes, 0, 0, t, 2), torn <= t ? 1 : 0);
            }
            int[] none = {10, 11, -1, Integer.MAX_VALUE, Integer.MIN_VALUE};
            for (int t : none) {
                check.due("t " + t, x.means(notes, 0, 0, t, 2), -2);
                check.due("t " + t, x.means(notes, 0, 1, t, 2), -2);
            }
            notes = x.tear(0, 59 - torn, false) + 1;
        }
        x.put(0, 0);
        for (int t = 0; t <= 9; t++) {
            check.due("known by 10: sets", x.means(9, 0, 0, t, 2), t == 9 ? 1 : 0);
        }
        int[] whats = {3, 4, -1, Integer.MAX_VALUE, Integer.MIN_VALUE};
        for (int what : whats) {
            check.due("what " + what, x.means(0, 0, 0, 0, what), -2);
            check.due("what " + what, x.means(0, 0, 1, 0, what), -2);
        }
        check.due("card 1", x.means(0, 1, 0, 0, 0), -2);
        check.due("card -1", x.means(0, -1, 0, 0, 0), -2);
        check.due("field 2", x.means(0, 0, 2, 0, 0), -2);
        check.due("field -1", x.means(0, 0, -1, 0, 0), -2);
        check.due("by 14", x.means(14, 0, 0, 0, 0), -2);
        check.due("by -1", x.means(-1, 0, 0, 0, 0), -2);
    }

    /** "all sets (that of none, too) of the FIELD's WORDS whose CODES by then have only NOTCHED HOLES"; SURE, MAY BE. */
    private void setsOfWords() {
        NotchedCards x = Check.made(PLAN, 1);
        x.put(0, 0);
        x.put(0, 1);
        // Holes 0 1 2 3: iron 0 1, wood 2 3, clay 1 2.
        int[][] due = {{3, 7, 2}, {0, 7, 4}, {0, 7, 7}, {0, 7, 7}, {0, 7, 8}, {0, 7, 8}};
        for (int t = 0; t < due.length; t++) {
            for (int what = 0; what < 3; what++) {
                check.due("four holes, t " + t + ", what " + what, x.means(2, 0, 3, t, what), due[t][what]);
            }
        }
        x.tear(0, 16, true);
        // Holes 0 1 2: iron, clay.
        int[][] three = {{5, 5, 1}, {0, 5, 3}, {0, 5, 3}, {0, 5, 4}};
        for (int t = 0; t < three.length; t++) {
            for (int what = 0; what < 3; what++) {
                check.due("three holes, t " + t + ", what " + what, x.means(3, 0, 3, t, what), three[t][what]);
            }
        }
        x.recode(1, 7 & ~2);
        // Wood is 0 2 then: iron and wood, iron and clay, wood and clay, all.
        check.due("codes by then: sets", x.means(4, 0, 3, 0, 2), 4);
        check.due("codes by then: may be", x.means(4, 0, 3, 0, 1), 7);
        check.due("codes by then: sure", x.means(4, 0, 3, 0, 0), 0);
        check.due("holes of another field", x.tear(0, 12, false), 4);
        check.due("holes of another field", x.tear(0, 23, false), 5);
        check.due("aren't looked at", x.means(6, 0, 3, 0, 2), 4);
    }

    /** "SURE: WORDS that are in all of these (none, if there are none)". */
    private void noSets() {
        NotchedCards x = Check.made(PLAN, 1);
        for (int what = 0; what < 3; what++) {
            check.due("nothing notched: the set of none", x.means(0, 0, 3, 0, what), what == 2 ? 1 : 0);
        }
        x.tear(0, 20, false);
        for (int what = 0; what < 3; what++) {
            check.due("a hole of no word: no set", x.means(1, 0, 3, 0, what), 0);
            check.due("one torn: the set of none", x.means(1, 0, 3, 1, what), what == 2 ? 1 : 0);
        }
        x.put(0, 0);
        for (int what = 0; what < 3; what++) {
            check.due("iron and a hole of no word: no set", x.means(2, 0, 3, 0, what), 0);
            check.due("one torn: iron", x.means(2, 0, 3, 1, what), 1);
        }
        check.due("three torn: sure", x.means(2, 0, 3, 3, 0), 0);
        check.due("three torn: may be", x.means(2, 0, 3, 3, 1), 1);
        check.due("three torn: sets", x.means(2, 0, 3, 3, 2), 2);
        NotchedCards none = Check.made("holes 20;field a laid 0 5 1;", 1);
        for (int what = 0; what < 3; what++) {
            check.due("a field without words", none.means(0, 0, 0, 0, what), what == 2 ? 1 : 0);
        }
        none.tear(0, 0, false);
        for (int what = 0; what < 3; what++) {
            check.due("a field without words, a hole", none.means(1, 0, 0, 0, what), 0);
        }
    }

    /** Words of a plan that is gone mean nothing. */
    private void wordsOfAnEarlierPlan() {
        String twelve = "holes 20;field a laid 0 5 1;word a b 0;word a c 0;word a d 0;word a e 0;";
        NotchedCards x = Check.made(twelve, 1);
        check.due("the same anew", Check.plan(x, twelve), 6);
        check.due("fewer words", Check.plan(x, "holes 20;field a laid 0 5 1;word a b 0;"), 3);
        x.card();
        x.put(0, 0);
        check.due("sets", x.means(1, 0, 0, 0, 2), 1);
        check.due("may be", x.means(1, 0, 0, 1, 1), 1);
        check.due("best", x.best(1, 0), 1);
        check.due("best", x.best(0, 0), 1);
        check.due("no second word", x.put(0, 1), -1);
    }

    /** "MEANS of another FIELD: VALUES whose CODE has only NOTCHED HOLES, with T others at most." */
    private void valuesOfFields() {
        NotchedCards x = Check.made(PLAN, 1);
        int[][] empty = {{-1, 0, 0}, {0, 1, 1}, {-1, 0, 0}};
        for (int field = 0; field < 3; field++) {
            for (int what = 0; what < 3; what++) {
                check.due("nothing notched, field " + field + ", what " + what, x.means(0, 0, field, 0, what), empty[field][what]);
                check.due("nothing notched, t 9", x.means(0, 0, field, 9, what), empty[field][what]);
            }
        }
        x.set(0, 0, 3);
        x.set(0, 1, 9);
        x.set(0, 2, 9);
        int[][] one = {{3, 8, 1}, {9, 512, 1}, {9, 512, 1}};
        for (int field = 0; field < 3; field++) {
            for (int what = 0; what < 3; what++) {
                check.due("one value, field " + field + ", what " + what, x.means(3, 0, field, 0, what), one[field][what]);
            }
        }
        check.due("one hole of two torn: 2, 7 or 9", x.means(3, 0, 1, 1, 1), 1 << 2 | 1 << 7 | 1 << 9);
        check.due("both torn: 0, too", x.means(3, 0, 1, 2, 1), 1 | 1 << 2 | 1 << 7 | 1 << 9);
        check.due("both torn: how many", x.means(3, 0, 1, 2, 2), 4);
        check.due("both torn: none alone", x.means(3, 0, 1, 2, 0), -1);
        check.due("pairs with one torn", x.means(3, 0, 2, 1, 1), 512);
        x.tear(0, 0, false);
        check.due("one of two holes: none", x.means(4, 0, 0, 0, 1), 0);
        check.due("one of two holes: none", x.means(4, 0, 0, 0, 0), -1);
        check.due("one of two holes: one torn", x.means(4, 0, 0, 1, 1), 9);
        check.due("one of two holes: one torn", x.means(4, 0, 0, 1, 2), 2);
        check.due("one of two holes: none alone", x.means(4, 0, 0, 1, 0), -1);
    }

    private void valuesWithNineTorn() {
        NotchedCards x = Check.made("holes 60;field a one 36 59;", 1);
        for (int torn = 0; torn < 11; torn++) {
            x.tear(0, 59 - torn, false);
            check.due((torn + 1) + " holes, 9 torn", x.means(torn + 1, 0, 0, 9, 2), torn <= 9 ? torn + 1 : 0);
            check.due((torn + 1) + " holes, 8 torn", x.means(torn + 1, 0, 0, 8, 2), torn <= 8 ? torn + 1 : 0);
        }
        check.due("the highest value", x.means(1, 0, 0, 0, 0), 23);
        check.due("the highest value's bit", x.means(1, 0, 0, 0, 1), 1 << 23);
    }

    private static NotchedCards ordered(int field, int... values) {
        NotchedCards x = Check.made(ORDERS, values.length);
        for (int c = 0; c < values.length; c++) {
            if (values[c] >= 0) {
                x.set(c, field, values[c]);
            }
        }
        return x;
    }

    /** "BEHIND: the fewest CARDS that must be moved so that it is in ORDER"; "none first, like ones in any order". */
    private void fewestMoves() {
        check.due("no card", ordered(3).behind(0, 3), 0);
        check.due("one card", ordered(3, 5).behind(0, 3), 0);
        check.due("two in order", ordered(3, 4, 5).behind(0, 3), 0);
        check.due("two alike", ordered(3, 5, 5).behind(0, 3), 0);
        check.due("two not in order", ordered(3, 5, 4).behind(0, 3), 1);
        check.due("none first", ordered(3, -1, 0).behind(0, 3), 0);
        check.due("none behind", ordered(3, 0, -1).behind(0, 3), 1);
        check.due("none of any", ordered(3, -1, -1, -1).behind(0, 3), 0);
        check.due("the last to the front", ordered(3, 1, 2, 3, 4, 0).behind(0, 3), 1);
        check.due("the first to the end", ordered(3, 9, 1, 2, 3, 4).behind(0, 3), 1);
        check.due("of a wide field", ordered(6, 23, 22, 21, 0).behind(0, 6), 3);
        check.due("of seven holes", ordered(2, 6, 0).behind(0, 2), 1);
        int[] thirty = new int[30];
        for (int c = 0; c < 30; c++) {
            thirty[c] = 29 - c < 24 ? 29 - c : 23;
        }
        check.due("thirty the other way round, seven alike", ordered(6, thirty).behind(0, 6), 23);
        NotchedCards x = ordered(3, 5, 4, 3);
        check.due("work", Check.work(x, "pass a to b a by 16;"), 0);
        check.dueRow("5 and 4 have the hole of four", x, 1, "0 1");
        check.due("behind of a pack", x.behind(1, 3), 1);
        check.due("behind of the other", x.behind(0, 3), 0);
        check.due("behind of none", x.behind(5, 3), 0);
        x.turn(0);
        check.due("turned cards are as they are truly", x.behind(1, 3), 1);
        x.tear(1, 16, true);
        check.due("holes don't count, truth does", x.behind(1, 3), 1);
    }

    /** Promises 29, 30: "NONE: no such PACK, FIELD (laid, too, or of more than 6 HOLES), what." */
    private void noSuchOrders() {
        NotchedCards x = ordered(1, 1, 0);
        int[] none = {7, 8, -1, Integer.MAX_VALUE, Integer.MIN_VALUE};
        for (int no : none) {
            check.due("behind of field " + no, x.behind(0, no), -1);
            check.due("behind of pack " + no, x.behind(no, 1), -1);
            check.due("sort of field " + no, x.sort(0, no, 0), -1);
            check.due("sort of pack " + no, x.sort(no, 1, 0), -1);
        }
        check.due("behind of pack 6", x.behind(6, 1), -1);
        check.due("sort of pack 6", x.sort(6, 1, 0), -1);
        check.due("behind of a laid field", x.behind(0, 5), -1);
        check.due("sort of a laid field", x.sort(0, 5, 0), -1);
        check.due("behind of seven holes", x.behind(0, 2), 0);
        check.due("sort of two holes", x.sort(0, 0, 0), 0);
        check.due("sort of six holes", x.sort(0, 1, 0), 1);
        check.due("sort of seven holes", x.sort(0, 2, 0), -1);
        check.due("sort of 24 holes", x.sort(0, 6, 0), -1);
        check.due("sort of sums", x.sort(0, 3, 0), 0);
        check.due("sort of pairs", x.sort(0, 4, 0), 0);
        check.due("what -1", x.sort(0, 1, -1), -1);
        check.due("what least", x.sort(0, 1, Integer.MIN_VALUE), -1);
        check.due("what 1", x.sort(0, 1, 1), 3);
        check.due("what 2", x.sort(0, 1, 2), -1);
        check.due("what most", x.sort(0, 1, Integer.MAX_VALUE), -1);
    }

    private void row(String name, NotchedCards x, int pack, int field, int... holes) {
        check.due(name + ": passes", x.sort(pack, field, 0), holes.length);
        for (int i = 0; i < holes.length; i++) {
            check.due(name + ": pass " + i, x.sort(pack, field, i + 1), holes[i]);
        }
        check.due(name + ": behind the last pass", x.sort(pack, field, holes.length + 1), -1);
    }

    /** A pack that is in order already needs none. */
    private void rowsOfNoPasses() {
        row("no card", ordered(3), 0, 3);
        row("one card", ordered(3, 9), 0, 3);
        row("in order", ordered(3, -1, 0, 0, 5, 9), 0, 3);
        row("alike", ordered(3, 7, 7, 7), 0, 3);
        row("none of any", ordered(4, -1, -1), 0, 4);
        row("an empty pack", ordered(4, 3, 2), 5, 4);
    }

    /** "the fewest": from one pass to six, each hole once at most. */
    private void rowsOfFewestPasses() {
        row("one", ordered(1, 1, 0), 0, 1, 3);
        row("two", ordered(1, 2, 1, 0), 0, 1, 3, 4);
        row("three", ordered(1, 3, 2, 1, 0), 0, 1, 3, 4, 5);
        row("four", ordered(1, 4, 3, 2, 1, 0), 0, 1, 3, 4, 5, 6);
        row("five", ordered(1, 5, 4, 3, 2, 1, 0), 0, 1, 3, 4, 5, 6, 7);
        row("six", ordered(1, 5, 4, 3, 2, 1, 0, -1), 0, 1, 2, 3, 4, 5, 6, 7);
        row("of two holes", ordered(0, 1, 0, -1), 0, 0, 0, 1);
        row("of sums", ordered(3, 9, 8, 7, 6, 5, 4, 3, 2, 1, 0), 0, 3, 18, 17, 16, 15);
        row("of pairs, without 0", ordered(4, 2, 1), 0, 4, 21);
        int[] thirty = new int[30];
        for (int c = 0; c < 30; c++) {
            thirty[c] = 5 - c % 6;
        }
        row("thirty cards", ordered(1, thirty), 0, 1, 3, 4, 5, 6, 7);
        NotchedCards work = ordered(1, thirty);
        check.due("the row as work", Check.work(work, "pass a to b a by 3;join b a;pass a to b a by 4;join b a;pass a to b a by 5;join b a;"
                + "pass a to b a by 6;join b a;pass a to b a by 7;join b a;"), 0);
        check.due("in order then", work.behind(0, 1), 0);
        row("in order then", work, 0, 1);
    }

    /** "of several the first row by numbers". */
    private void theFirstRowByNumbers() {
        // 2 is at 2 and 3 and 7 as well: each alone does.
        NotchedCards x = ordered(1, 1, 0);
        x.tear(1, 2, true);
        x.tear(0, 2, false);
        x.tear(0, 7, false);
        row("the first hole of three", x, 0, 1, 2);
        x.tear(1, 2, false);
        row("the second, if both drop by the first", x, 0, 1, 3);
        NotchedCards y = ordered(3, 3, 2, 1, 0);
        row("by two and one", y, 0, 3, 18, 17);
        y.tear(0, 15, false);
        y.tear(1, 15, false);
        // Holes 15 and 17 are alike then: the first one comes last all the same, but 15 ahead of 17.
        row("15 does what 17 does", y, 0, 3, 18, 15);
        NotchedCards any = ordered(1, 3, 1, 2, 0);
        any.tear(0, 3, false);
        // 3 and 1 are both at hole 3: 3, then 4 and 5 bring 2 and 3 behind.
        row("three passes", any, 0, 1, 3, 4, 5);
    }

    /** Promise 30: "-2: no row does". */
    private void noRowDoes() {
        NotchedCards x = ordered(1, 1, 0);
        x.tear(0, 3, true);
        int[] whats = {0, 1, 2, 6, 7, Integer.MAX_VALUE};
        for (int what : whats) {
            check.due("none drops, what " + what, x.sort(0, 1, what), -2);
        }
        check.due("none drops, what -1", x.sort(0, 1, -1), -1);
        x.tear(0, 7, false);
        row("one that drops by the last hole", x, 0, 1, 7);
        x.tear(1, 7, false);
        check.due("both drop by it", x.sort(0, 1, 0), -2);
        NotchedCards none = ordered(3, 0, -1);
        check.due("none behind 0: no holes at all", none.sort(0, 3, 0), -2);
        check.due("behind", none.behind(0, 3), 1);
        NotchedCards same = ordered(1, 1, 0);
        same.tear(0, 2, false);
        same.tear(1, 3, false);
        check.due("alike at all holes", same.sort(0, 1, 0), -2);
        // 0 drops by holes 3 and 4 that 1 and 2 need.
        NotchedCards mixed = ordered(1, 2, 1, 0);
        mixed.tear(2, 3, false);
        mixed.tear(2, 4, false);
        check.due("mixed", mixed.sort(0, 1, 0), -2);
    }

    /** "(TURNED CARDS as they are; nothing is moved.)" */
    private void turnedAsTheyAre() {
        NotchedCards x = ordered(1, 1, 0);
        x.turn(1);
        row("the lesser one turned: it is lifted anyway", x, 0, 1, 3);
        x.turn(0);
        check.due("both turned: none drops", x.sort(0, 1, 0), -2);
        // Field six has holes 2 .. 7: turned over, holes 57 .. 52 come there.
        x.tear(0, 57, false);
        row("hole 57 is at 2 then", x, 0, 1, 2);
        x.tear(0, 57, true);
        x.tear(0, 52, false);
        row("hole 52 is at 7 then", x, 0, 1, 7);
        x.tear(0, 51, false);
        row("hole 51 is beyond the field", x, 0, 1, 7);
        x.tear(0, 52, true);
        check.due("hole 51 is beyond the field", x.sort(0, 1, 0), -2);
        x.tear(0, 51, true);
        x.tear(0, 58, false);
        check.due("hole 58 is ahead of the field", x.sort(0, 1, 0), -2);
        check.dueRow("nothing is moved", x, 0, "0 1");
        check.due("turned as before", x.turned(), 3);
        check.due("behind as before", x.behind(0, 1), 1);
    }

    private void oneSortAfterAnother() {
        NotchedCards x = ordered(1, 5, 4, 3, 2, 1, 0, -1);
        for (int c = 0; c < 7; c++) {
            x.set(c, 3, c);
            x.set(c, 4, 6 - c);
        }
        for (int i = 0; i < 3; i++) {
            row("six", x, 0, 1, 2, 3, 4, 5, 6, 7);
            row("sums, in order", x, 0, 3);
            row("an empty pack", x, 1, 1);
        }
        check.due("one card alone", Check.work(x, "pass a to b a by 7;"), 0);
        row("one card alone", x, 1, 1);
        row("five", x, 0, 1, 2, 3, 4, 5, 6);
        check.due("two cards", Check.work(x, "pass a to b a by 2;"), 0);
        row("two cards: 5 and 0", x, 1, 1, 7);
    }
}
