import java.nio.charset.StandardCharsets;
import java.util.ArrayList;
import java.util.List;
import java.util.NoSuchElementException;

/** Long rows of calls, right and wrong, held against the Model; always the same ones for the same number of runs. */
public final class CompareTest {
    private static final String[] NAMES = {"a", "b", "c", "g", "kind", "year", "no", "topic", "iron", "wood", "clay", "abcdef"};
    private static final String[] SCRAPS = {";", "(", ")", "=", "100", "0", "7", "a", "b", "zz", "abcdefg", "and", "or", "not", "pass",
        "to", "by", "join", "again", "holes", "field", "word", "one", "sums", "pairs", "laid", "A", "\t", "\u00e9", "60", "iron"};

    private final Check check = new Check("CompareTest");
    private long seed;
    private NotchedCards x;
    private Model model;
    private List<String> fields = new ArrayList<>();
    private List<Integer> widths = new ArrayList<>();
    private List<String> kinds = new ArrayList<>();
    private List<String> words = new ArrayList<>();
    private final StringBuilder calls = new StringBuilder();

    public static void main(String[] args) {
        int runs = args.length > 0 ? Integer.parseInt(args[0]) : 120;
        CompareTest test = new CompareTest();
        for (int run = 0; run < runs; run++) {
            test.run(run);
            test.sortRun(run);
            test.planRun(run);
        }
        test.check.end();
    }

    private int below(int bound) {
        seed = seed * 6364136223846793005L + 1442695040888963407L;
        return (int) ((seed >>> 33) % bound);
    }

    private boolean isOnce(int of) {
        return below(of) == 0;
    }

    private void begin(int number, int kind) {
        seed = number * 7919L + kind;
        for (int i = 0; i < 5; i++) {
            below(2);
        }
        x = new NotchedCards();
        model = new Model();
        calls.setLength(0);
        calls.append("run ").append(number).append(':');
        fields.clear();
        words.clear();
    }

    /** Packs that are hard to put in order, and a wide field. */
    private void sortRun(int number) {
        begin(number, 23);
        give("plan", "holes 45;field six one 0 5;field year sums 6;field no pairs 10;field top laid 15 " + (26 + below(13)) + " 4;"
                + "word top x 0 1 2 3;word top y 2 3 4 5;word top z 7 8 9 11;");
        int size = 2 + below(isOnce(5) ? 29 : 8);
        int values = 2 + below(9);
        for (int c = 0; c < size; c++) {
            due("card", x.card(), model.card());
            for (int f = 0; f < 3; f++) {
                int v = below(values);
                if (!isOnce(12)) {
                    due("set(" + c + "," + f + "," + v + ")", x.set(c, f, v), model.set(c, f, v));
                }
            }
            int w = below(3);
            due("put(" + c + "," + w + ")", x.put(c, w), model.put(c, w));
        }
        for (int i = below(6); i > 0; i--) {
            int c = below(size);
            int h = below(45);
            due("tear(" + c + "," + h + ")", x.tear(c, h, false), model.tear(c, h, false));
            if (isOnce(4)) {
                due("turn(" + c + ")", x.turn(c) ? 1 : 0, model.turn(c) ? 1 : 0);
            }
        }
        for (int f = 0; f < 3; f++) {
            due("behind(0," + f + ")", x.behind(0, f), model.behind(0, f));
            for (int what = 0; what <= 6; what++) {
                due("sort(0," + f + "," + what + ")", x.sort(0, f, what), model.sort(0, f, what));
            }
        }
        int w = below(3);
        int n = by();
        due("best(" + n + "," + w + ")", x.best(n, w), model.best(n, w));
        due("likely(" + n + "," + w + ")", x.likely(n, w, 0), model.likely(n, w, 0));
    }

    private void planRun(int number) {
        begin(number, 29);
        for (int i = 0; i < 20; i++) {
            give("plan", spoiled(planText(), 1));
            due("count(1)", x.count(1), model.count(1));
            due("count(2)", x.count(2), model.count(2));
        }
    }

    private void run(int number) {
        begin(number, 17);
        int calls = 0;
        for (; calls < 60 && isOnce(3); calls++) {
            one();
        }
        give("plan", planText());
        int size = isOnce(4) ? 30 : 1 + below(9);
        for (int c = 0; c < size; c++) {
            due("card", x.card(), model.card());
        }
        for (; calls < 220; calls++) {
            one();
        }
    }

    private void due(String call, long got, long want) {
        calls.append(' ').append(call);
        if (got != want) {
            check.due(calls.toString(), got, want);
            throw new IllegalStateException("the model answers otherwise: " + calls + " got " + got + " want " + want);
        }
        check.due(call, got, want);
    }

    private void give(String what, String text) {
        byte[] bytes = text.getBytes(StandardCharsets.ISO_8859_1);
        for (int i = 0; i < bytes.length; i += 20) {
            int[] five = new int[5];
            for (int k = 0; k < 20; k++) {
                five[k / 4] = five[k / 4] << 8 | (i + k < bytes.length ? bytes[i + k] & 255 : ' ');
            }
            int got = x.feed(five[0], five[1], five[2], five[3], five[4]);
            due("feed", got, model.feed(five[0], five[1], five[2], five[3], five[4]));
        }
        int n = isOnce(40) ? below(600) - 20 : text.length();
        String call = what + "{" + text + "}" + n;
        if (what.equals("plan")) {
            due(call, x.plan(n), model.plan(n));
        } else if (what.equals("work")) {
            due(call, x.work(n), model.work(n));
        } else {
            due(call, x.question(n), model.question(n));
        }
        due("fault0", x.fault(0), model.fault(0));
        due("fault1", x.fault(1), model.fault(1));
    }

    private String planText() {
        fields.clear();
        widths.clear();
        kinds.clear();
        words.clear();
        int holes = 10 + below(51);
        StringBuilder text = new StringBuilder("holes " + holes + ";");
        int at = below(3);
        int name = 0;
        String[] names = NAMES.clone();
        for (int i = names.length - 1; i > 0; i--) {
            int k = below(i + 1);
            String other = names[i];
            names[i] = names[k];
            names[k] = other;
        }
        while (at + 5 < holes && fields.size() < 5 && name < names.length) {
            String kind = new String[] {"one", "sums", "pairs", "laid", "laid"}[below(5)];
            int width = kind.equals("sums") ? 4 : kind.equals("pairs") ? 5 : Math.min(holes - at, 2 + below(isOnce(5) ? 12 : 5));
            text.append("field ").append(names[name]).append(' ').append(kind).append(' ').append(at);
            if (kind.equals("one") || kind.equals("laid")) {
                text.append(' ').append(at + width - 1);
            }
            int k = 1 + below(Math.min(4, width));
            if (kind.equals("laid")) {
                text.append(' ').append(k);
            }
            text.append(";");
            fields.add(names[name]);
            widths.add(width);
            kinds.add(kind);
            String field = names[name++];
            for (int w = below(4); kind.equals("laid") && w > 0 && name < 11; w--) {
                text.append("word ").append(field).append(' ').append(names[name]);
                words.add(names[name++]);
                int hole = below(width);
                for (int i = 0; i < k; i++) {
                    text.append(' ').append((hole + i) % width);
                }
                text.append(";");
            }
            at += width + below(3);
        }
        return spoiled(text.toString(), 8);
    }

    private String spoiled(String text, int once) {
        if (!isOnce(once) || text.isEmpty()) {
            return text;
        }
        int at = below(text.length() + 1);
        String scrap = SCRAPS[below(SCRAPS.length)];
        switch (below(6)) {
            case 0:
                return text.substring(0, at) + scrap + text.substring(at);
            case 1:
                return text.substring(0, at) + " " + scrap + " " + text.substring(Math.min(text.length(), at + below(5)));
            case 2:
                return text.substring(0, at);
            default:
                return text.substring(0, at) + text.substring(at).replaceFirst("[0-9]+", "" + below(isOnce(2) ? 30 : 120));
        }
    }

    private String workText(int depth) {
        StringBuilder text = new StringBuilder();
        for (int i = below(isOnce(12) ? 14 : 4); i >= 0 && text.length() < 300; i--) {
            char from = (char) ('a' + (isOnce(2) ? 0 : below(6)));
            if (isOnce(3)) {
                char to = (char) ('a' + below(6));
                if (from != to || isOnce(9)) {
                    text.append("join ").append(from).append(' ').append(to).append(';');
                }
            } else if (depth < 6 && isOnce(4)) {
                text.append("again ").append(isOnce(8) ? 50 + below(50) : below(4)).append('(').append(workText(depth + 1)).append(')');
            } else {
                text.append("pass ").append(from).append(" to ").append((char) ('a' + below(6))).append(' ')
                        .append((char) ('a' + below(6))).append(" by");
                for (int h = isOnce(3) ? 1 : 0; h >= 0; h--) {
                    text.append(' ').append(needle());
                }
                text.append(';');
            }
        }
        return text.toString();
    }

    private String needle() {
        if (!words.isEmpty() && isOnce(3)) {
            return words.get(below(words.size()));
        }
        if (!fields.isEmpty() && isOnce(2)) {
            int field = below(fields.size());
            return fields.get(field) + " " + below(widths.get(field) + (isOnce(20) ? 2 : 0));
        }
        return "" + below(isOnce(10) ? 62 : 10);
    }

    private String questionText(int depth) {
        StringBuilder text = new StringBuilder();
        int parts = 1 + below(isOnce(10) ? 12 : 3);
        for (int i = 0; i < parts; i++) {
            text.append(i == 0 ? "" : isOnce(2) ? " and " : " or ");
            while (isOnce(3)) {
                text.append("not ");
            }
            if (depth < 10 && isOnce(3)) {
                text.append('(').append(questionText(depth + 1)).append(')');
            } else if (!words.isEmpty() && isOnce(2)) {
                text.append(words.get(below(words.size())));
            } else if (!fields.isEmpty()) {
                int field = below(fields.size());
                for (int tries = 0; tries < 4 && kinds.get(field).equals("laid"); tries++) {
                    field = below(fields.size());
                }
                int values = kinds.get(field).equals("one") ? widths.get(field) : 10;
                text.append(fields.get(field)).append(isOnce(30) ? "" : " = " + below(values + (isOnce(10) ? 1 : 0)));
            } else {
                text.append("x");
            }
        }
        return text.toString();
    }

    private int card() {
        return below(Math.max(1, model.count(3))) - (isOnce(40) ? 1 : 0) + (isOnce(40) ? 1 : 0);
    }

    private int field() {
        return below(Math.max(1, model.count(1))) - (isOnce(40) ? 1 : 0) + (isOnce(40) ? 1 : 0);
    }

    private int word() {
        return below(Math.max(1, model.count(2))) - (isOnce(40) ? 1 : 0) + (isOnce(40) ? 1 : 0);
    }

    private int by() {
        return isOnce(2) ? model.count(4) : below(model.count(4) + 2) - (isOnce(40) ? 1 : 0);
    }

    private int pack() {
        return isOnce(2) ? 0 : below(7) - (isOnce(20) ? 1 : 0);
    }

    private int small(int bound) {
        return below(bound) - (isOnce(30) ? 1 : 0);
    }

    private void one() {
        if (isOnce(2)) {
            makeNote();
        } else if (isOnce(3)) {
            moveCards();
        } else {
            askOne();
        }
    }

    private void makeNote() {
        int c = card();
        int f = field();
        int w = word();
        switch (below(8)) {
            case 0:
            case 1:
                int v = small(11);
                due("set(" + c + "," + f + "," + v + ")", x.set(c, f, v), model.set(c, f, v));
                break;
            case 2:
            case 3:
                due("put(" + c + "," + w + ")", x.put(c, w), model.put(c, w));
                break;
            case 4:
                int h = isOnce(20) ? 60 : below(Math.max(1, model.count(0)));
                boolean mended = isOnce(3);
                due("tear(" + c + "," + h + "," + mended + ")", x.tear(c, h, mended), model.tear(c, h, mended));
                break;
            case 5:
                int bits = 0;
                for (int i = 1 + below(4); i > 0; i--) {
                    bits |= 1 << below(5);
                }
                bits |= isOnce(20) ? 1 << 31 : 0;
                due("recode(" + w + "," + bits + ")", x.recode(w, bits), model.recode(w, bits));
                break;
            case 6:
                int note = isOnce(2) ? model.count(4) - 1 : below(model.count(4) + 1);
                due("strike(" + note + ")", x.strike(note), model.strike(note));
                break;
            default:
                if (isOnce(3)) {
                    due("card", x.card(), model.card());
                }
        }
    }

    private void moveCards() {
        switch (below(8)) {
            case 0:
            case 1:
                give("work", spoiled(workText(0), 6));
                break;
            case 2:
            case 3:
            case 4:
                give("question", spoiled(questionText(0), 6));
                break;
            case 5:
            case 6:
                int c = card();
                due("turn(" + c + ")", x.turn(c) ? 1 : 0, model.turn(c) ? 1 : 0);
                break;
            default:
                if (isOnce(2)) {
                    due("gather", x.gather(), model.gather());
                } else if (isOnce(8)) {
                    give("plan", planText());
                }
        }
    }

    private int look(int field, int what) {
        try {
            return x.look(field, what);
        } catch (IndexOutOfBoundsException e) {
            return -100;
        } catch (NoSuchElementException e) {
            return -200;
        }
    }

    private void askOne() {
        int n = by();
        int c = card();
        int f = field();
        int w = word();
        int p = pack();
        int k = small(6);
        switch (below(17)) {
            case 0 -> due("code(" + f + "," + k + ")", x.code(f, k), model.code(f, k));
            case 1 -> due("coded(" + n + "," + w + ")", x.coded(n, w), model.coded(n, w));
            case 2 -> due("notched(" + n + "," + c + ")", x.notched(n, c), model.notched(n, c));
            case 3 -> due("truly(" + n + "," + c + "," + f + ")", x.truly(n, c, f), model.truly(n, c, f));
            case 4 -> due("turned", x.turned(), model.turned());
            case 5 -> due("pack(" + p + "," + k + ")", x.pack(p, k), model.pack(p, k));
            case 6 -> {
                long holes = 1L << below(64) | (isOnce(3) ? 1L << below(64) : 0);
                due("drops(" + p + "," + holes + ")", x.drops(p, holes), model.drops(p, holes));
            }
            case 7 -> {
                for (int what = -1; what <= 4; what++) {
                    due("ask(" + n + "," + what + ")", x.ask(n, what), model.ask(n, what));
                }
            }
            case 8 -> due("likely(" + n + "," + w + "," + (k & 1) + ")", x.likely(n, w, k & 1), model.likely(n, w, k & 1));
            case 9 -> due("falsely(" + n + "," + w + ")", x.falsely(n, w), model.falsely(n, w));
            case 10 -> due("best(" + n + "," + w + ")", x.best(n, w), model.best(n, w));
            case 11, 12 -> {
                int t = small(11);
                int what = small(4);
                due("means(" + n + "," + c + "," + f + "," + t + "," + what + ")", x.means(n, c, f, t, what), model.means(n, c, f, t, what));
            }
            case 13 -> due("behind(" + p + "," + f + ")", x.behind(p, f), model.behind(p, f));
            case 14 -> {
                for (int what = 0; what <= 6; what++) {
                    due("sort(" + p + "," + f + "," + what + ")", x.sort(p, f, what), model.sort(p, f, what));
                }
            }
            case 15 -> due("count(" + k + ")", x.count(k), model.count(k));
            default -> {
                due("look(" + f + "," + k + ")", look(f, k), model.look(f, k));
                int letters = Check.packed(NAMES[below(NAMES.length)]);
                due("named(" + (k & 1) + "," + letters + ")", x.named(k & 1, letters), model.named(k & 1, letters));
            }
        }
    }
}
