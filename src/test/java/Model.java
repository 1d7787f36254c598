import java.util.ArrayList;
import java.util.Arrays;
import java.util.Collections;
import java.util.HashMap;
import java.util.HashSet;
import java.util.List;
import java.util.Map;
import java.util.Set;
import java.util.TreeSet;
import java.util.regex.Matcher;
import java.util.regex.Pattern;

/** A second reading of the document, by plain search and with the whole library: slow, and never shown to users. */
final class Model {
    private static final Set<String> LANGUAGE = new HashSet<>(Arrays.asList(
            "holes field word one sums pairs laid pass to by join again and or not".split(" ")));
    private static final int[] WEIGHTS = {7, 4, 2, 1, 0};

    private static final class Fault extends Exception {
        private static final long serialVersionUID = 1;
        final int what;
        final int place;

        Fault(int what, int place) {
            this.what = what;
            this.place = place;
        }
    }

    private record Token(String text, int place, boolean isRight) {
        boolean isNumber() {
            return isRight && !text.isEmpty() && Character.isDigit(text.charAt(0));
        }

        boolean isName() {
            return isRight && !text.isEmpty() && Character.isLetter(text.charAt(0)) && !LANGUAGE.contains(text);
        }

        int number() {
            String bare = text.replaceFirst("^0+", "");
            return bare.isEmpty() ? 0 : bare.length() > 2 ? 100 : Integer.parseInt(bare);
        }
    }

    private static final class Reader {
        final List<Token> tokens = new ArrayList<>();
        int at;

        Reader(String text) {
            Matcher matcher = Pattern.compile("[a-z]+|[0-9]+|[^ \n]", Pattern.DOTALL).matcher(text);
            while (matcher.find()) {
                String found = matcher.group();
                boolean isRight = found.matches("[a-z]{1,6}|[0-9]+|[;()=]");
                tokens.add(new Token(found, matcher.start(), isRight));
            }
            tokens.add(new Token("", text.length(), true));
        }

        Token peek() {
            return tokens.get(at);
        }

        Token next() {
            return at == tokens.size() - 1 ? tokens.get(at) : tokens.get(at++);
        }

        boolean is(String text) {
            return peek().isRight && peek().text.equals(text);
        }

        boolean isEnd() {
            return at == tokens.size() - 1;
        }

        Token name() throws Fault {
            if (!peek().isName()) {
                throw new Fault(1, peek().place);
            }
            return next();
        }

        Token number(int least, int most) throws Fault {
            if (!peek().isNumber()) {
                throw new Fault(1, peek().place);
            }
            if (peek().number() < least || peek().number() > most) {
                throw new Fault(2, peek().place);
            }
            return next();
        }

        Token text(String... any) throws Fault {
            for (String one : any) {
                if (is(one)) {
                    return next();
                }
            }
            throw new Fault(1, peek().place);
        }
    }

    private static final class Field {
        String name;
        String kind;
        int first;
        int last;
        int choice;

        int width() {
            return last - first + 1;
        }

        boolean isLaid() {
            return kind.equals("laid");
        }

        Set<Integer> code(int value) {
            Set<Integer> holes = new TreeSet<>();
            if (kind.equals("one")) {
                holes.add(first + value);
                return holes;
            }
            // All sets of the field's holes, those of fewest first.
            int sum = kind.equals("pairs") && value == 0 ? 11 : value;
            int least = kind.equals("pairs") ? 2 : 0;
            for (int size = least; size <= 2; size++) {
                for (int set = 0; set < 1 << width(); set++) {
                    int total = 0;
                    Set<Integer> those = new TreeSet<>();
                    for (int h = 0; h < width(); h++) {
                        if ((set >> h & 1) != 0) {
                            total += WEIGHTS[h];
                            those.add(first + h);
                        }
                    }
                    if (those.size() == size && total == sum) {
                        return those;
                    }
                }
            }
            throw new IllegalStateException("no code");
        }
    }

    private static final class Word {
        String name;
        Field field;
        Set<Integer> code = new TreeSet<>();
    }

    private record Note(int kind, int a, int b, int c) {
    }

    private interface Part {
        boolean holds(Known known, int card, boolean truly);
    }

    private static final class Step {
        String kind;
        int from;
        int second;
        int third;
        Set<Integer> needles = new TreeSet<>();
        int times;
        List<Step> inner = new ArrayList<>();
    }

    private final class Known {
        final List<Set<Integer>> cut = new ArrayList<>();
        final List<Set<Integer>> has = new ArrayList<>();
        final List<Map<Integer, Integer>> values = new ArrayList<>();
        final List<Set<Integer>> codes = new ArrayList<>();

        Known(int n) {
            for (int c = 0; c < cards; c++) {
                cut.add(new TreeSet<>());
                has.add(new TreeSet<>());
                values.add(new HashMap<>());
            }
            for (Word word : words) {
                codes.add(word.code);
            }
            for (int i = 0; i < n; i++) {
                if (!isStruck(i, n)) {
                    play(notes.get(i));
                }
            }
        }

        boolean isStruck(int note, int n) {
            for (int i = note + 1; i < n; i++) {
                if (notes.get(i).kind == 5 && notes.get(i).a == note && !isStruck(i, n)) {
                    return true;
                }
            }
            return false;
        }

        void play(Note note) {
            switch (note.kind) {
                case 0 -> {
                    values.get(note.a).put(note.b, note.c);
                    cut.get(note.a).addAll(fields.get(note.b).code(note.c));
                }
                case 1 -> {
                    has.get(note.a).add(note.b);
                    cut.get(note.a).addAll(codes.get(note.b));
                }
                case 2 -> cut.get(note.a).add(note.b);
                case 3 -> cut.get(note.a).remove(note.b);
                case 4 -> {
                    Set<Integer> code = new TreeSet<>();
                    for (int h = 0; h < 24; h++) {
                        if ((note.b >> h & 1) != 0) {
                            code.add(words.get(note.a).field.first + h);
                        }
                    }
                    codes.set(note.a, code);
                }
                default -> {
                }
            }
        }

        Set<Integer> cutOf(int card, Field field) {
            Set<Integer> those = new TreeSet<>(cut.get(card));
            those.removeIf(h -> h < field.first || h > field.last);
            return those;
        }
    }

    private String tape = "";
    private int holes = 10;
    private List<Field> fields = new ArrayList<>();
    private List<Word> words = new ArrayList<>();
    private int cards;
    private final List<Note> notes = new ArrayList<>();
    private Part question;
    private int knots;
    private int fault;
    private int place = -1;
    private final List<List<Integer>> packs = new ArrayList<>();
    private final Set<Integer> over = new TreeSet<>();
    private int passes;
    private int done;

    Model() {
        for (int p = 0; p < 6; p++) {
            packs.add(new ArrayList<>());
        }
    }

    int feed(int a, int b, int c, int d, int e) {
        if (tape.length() + 20 > 500) {
            return -1;
        }
        StringBuilder more = new StringBuilder(tape);
        for (int number : new int[] {a, b, c, d, e}) {
            for (int i = 3; i >= 0; i--) {
                more.append((char) (number >> 8 * i & 255));
            }
        }
        tape = more.toString();
        return tape.length();
    }

    private Reader taken(int n) {
        if (n < 0 || n > tape.length()) {
            return null;
        }
        Reader reader = new Reader(tape.substring(0, n));
        tape = "";
        fault = 0;
        place = -1;
        return reader;
    }

    private int failed(Fault f) {
        fault = f.what;
        place = f.place;
        return -1;
    }

    int plan(int n) {
        Reader reader = taken(n);
        if (reader == null) {
            return -2;
        }
        int oldHoles = holes;
        List<Field> oldFields = fields;
        List<Word> oldWords = words;
        holes = 10;
        fields = new ArrayList<>();
        words = new ArrayList<>();
        int lines = 0;
        try {
            while (!reader.isEnd()) {
                line(reader, lines);
                reader.text(";");
                lines++;
            }
        } catch (Fault f) {
            holes = oldHoles;
            fields = oldFields;
            words = oldWords;
            return failed(f);
        }
        cards = 0;
        notes.clear();
        question = null;
        knots = 0;
        over.clear();
        for (List<Integer> pack : packs) {
            pack.clear();
        }
        return lines;
    }

    private void line(Reader reader, int lines) throws Fault {
        Token token = lines == 0 ? reader.text("holes") : reader.text("holes", "field", "word");
        if (token.text.equals("holes")) {
            if (lines > 0) {
                throw new Fault(3, token.place);
            }
            holes = reader.number(10, 60).number();
        } else if (token.text.equals("field")) {
            if (fields.size() == 8) {
                throw new Fault(2, token.place);
            }
            field(reader);
        } else {
            if (words.size() == 12) {
                throw new Fault(2, token.place);
            }
            word(reader);
        }
    }

    private String newName(Reader reader) throws Fault {
        Token name = reader.name();
        if (fieldNamed(name.text) >= 0 || wordNamed(name.text) >= 0) {
            throw new Fault(3, name.place);
        }
        return name.text;
    }

    private void free(int first, int last, int where) throws Fault {
        for (Field other : fields) {
            for (int h = first; h <= last; h++) {
                if (h >= other.first && h <= other.last) {
                    throw new Fault(3, where);
                }
            }
        }
    }

    private void field(Reader reader) throws Fault {
        Field field = new Field();
        field.name = newName(reader);
        field.kind = reader.text("one", "sums", "pairs", "laid").text;
        field.choice = 10;
        if (field.kind.equals("sums") || field.kind.equals("pairs")) {
            int width = field.kind.equals("sums") ? 4 : 5;
            Token a = reader.number(0, holes - width);
            field.first = a.number();
            field.last = field.first + width - 1;
            free(field.first, field.last, a.place);
        } else {
            Token a = reader.number(0, holes - 1);
            field.first = a.number();
            free(field.first, field.first, a.place);
            int least = field.first + (field.isLaid() ? 0 : 1);
            Token b = reader.number(least, Math.min(holes - 1, field.first + 23));
            field.last = b.number();
            free(field.first, field.last, b.place);
            field.choice = field.isLaid() ? reader.number(1, Math.min(4, field.width())).number() : field.width();
        }
        fields.add(field);
    }

    private void word(Reader reader) throws Fault {
        Token told = reader.name();
        int field = fieldNamed(told.text);
        if (field < 0 || !fields.get(field).isLaid()) {
            throw new Fault(4, told.place);
        }
        Word word = new Word();
        word.field = fields.get(field);
        word.name = newName(reader);
        do {
            Token hole = reader.number(0, word.code.size() == word.field.choice ? -1 : word.field.width() - 1);
            if (!word.code.add(word.field.first + hole.number())) {
                throw new Fault(3, hole.place);
            }
        } while (reader.peek().isNumber());
        if (reader.is(";") && word.code.size() < word.field.choice) {
            throw new Fault(5, reader.peek().place);
        }
        words.add(word);
    }

    private int fieldNamed(String name) {
        for (int f = 0; f < fields.size(); f++) {
            if (fields.get(f).name.equals(name)) {
                return f;
            }
        }
        return -1;
    }

    private int wordNamed(String name) {
        for (int w = 0; w < words.size(); w++) {
            if (words.get(w).name.equals(name)) {
                return w;
            }
        }
        return -1;
    }

    int work(int n) {
        Reader reader = taken(n);
        if (reader == null) {
            return -2;
        }
        List<Step> steps;
        try {
            Known known = new Known(notes.size());
            steps = steps(reader, known, 0, new int[1]);
            if (!reader.isEnd()) {
                throw new Fault(1, reader.peek().place);
            }
        } catch (Fault f) {
            return failed(f);
        }
        done = 0;
        passes = 0;
        return doAll(steps) ? 0 : 1;
    }

    private List<Step> steps(Reader reader, Known known, int open, int[] count) throws Fault {
        List<Step> steps = new ArrayList<>();
        while (reader.is("pass") || reader.is("join") || reader.is("again")) {
            Token token = reader.next();
            if (++count[0] > 40) {
                throw new Fault(2, token.place);
            }
            Step step = new Step();
            step.kind = token.text;
            steps.add(step);
            if (step.kind.equals("pass")) {
                step.from = packRead(reader);
                reader.text("to");
                step.second = packRead(reader);
                step.third = packRead(reader);
                reader.text("by");
                do {
                    needle(reader, known, step);
                } while (!reader.is(";"));
                reader.text(";");
            } else if (step.kind.equals("join")) {
                step.from = packRead(reader);
                int where = reader.peek().place;
                step.second = packRead(reader);
                if (step.from == step.second) {
                    throw new Fault(3, where);
                }
                reader.text(";");
            } else {
                step.times = reader.number(0, 99).number();
                Token bracket = reader.text("(");
                if (open == 5) {
                    throw new Fault(2, bracket.place);
                }
                step.inner = steps(reader, known, open + 1, count);
                reader.text(")");
            }
        }
        return steps;
    }

    private int packRead(Reader reader) throws Fault {
        return reader.text("a", "b", "c", "d", "e", "f").text.charAt(0) - 'a';
    }

    private void needle(Reader reader, Known known, Step step) throws Fault {
        if (reader.peek().isNumber()) {
            step.needles.add(reader.number(0, holes - 1).number());
            return;
        }
        Token name = reader.name();
        int field = fieldNamed(name.text);
        int word = wordNamed(name.text);
        if (field < 0 && word < 0) {
            throw new Fault(4, name.place);
        }
        if (word >= 0) {
            step.needles.addAll(known.codes.get(word));
        } else {
            step.needles.add(fields.get(field).first + reader.number(0, fields.get(field).width() - 1).number());
        }
    }

    private boolean doAll(List<Step> steps) {
        for (Step step : steps) {
            if (done == 3000) {
                return false;
            }
            done++;
            if (step.kind.equals("pass")) {
                passes++;
                List<Integer> row = new ArrayList<>(packs.get(step.from));
                packs.get(step.from).clear();
                Known known = new Known(notes.size());
                for (int card : row) {
                    packs.get(isDropping(known, card, step.needles) ? step.second : step.third).add(card);
                }
            } else if (step.kind.equals("join")) {
                packs.get(step.second).addAll(packs.get(step.from));
                packs.get(step.from).clear();
            } else {
                for (int i = 0; i < step.times; i++) {
                    if (!doAll(step.inner)) {
                        return false;
                    }
                }
            }
        }
        return true;
    }

    private boolean isDropping(Known known, int card, Set<Integer> needles) {
        for (int needle : needles) {
            if (!known.cut.get(card).contains(over.contains(card) ? holes - 1 - needle : needle)) {
                return false;
            }
        }
        return true;
    }

    int question(int n) {
        Reader reader = taken(n);
        if (reader == null) {
            return -2;
        }
        try {
            int[] count = new int[1];
            Part part = either(reader, count, 0);
            if (!reader.isEnd()) {
                throw new Fault(1, reader.peek().place);
            }
            question = part;
            knots = count[0];
            return knots;
        } catch (Fault f) {
            return failed(f);
        }
    }

    private Token knot(Reader reader, int[] count) throws Fault {
        if (++count[0] > 40) {
            throw new Fault(2, reader.peek().place);
        }
        return reader.next();
    }

    private Part either(Reader reader, int[] count, int open) throws Fault {
        Part left = both(reader, count, open);
        while (reader.is("or")) {
            knot(reader, count);
            Part one = left;
            Part two = both(reader, count, open);
            left = (known, card, truly) -> one.holds(known, card, truly) || two.holds(known, card, truly);
        }
        return left;
    }

    private Part both(Reader reader, int[] count, int open) throws Fault {
        Part left = part(reader, count, open);
        while (reader.is("and")) {
            knot(reader, count);
            Part one = left;
            Part two = part(reader, count, open);
            left = (known, card, truly) -> one.holds(known, card, truly) && two.holds(known, card, truly);
        }
        return left;
    }

    private Part part(Reader reader, int[] count, int open) throws Fault {
        if (reader.is("not")) {
            knot(reader, count);
            Part inner = part(reader, count, open);
            return (known, card, truly) -> !inner.holds(known, card, truly);
        }
        if (reader.is("(")) {
            if (open == 8) {
                throw new Fault(2, reader.peek().place);
            }
            reader.next();
            Part inner = either(reader, count, open + 1);
            reader.text(")");
            return inner;
        }
        if (!reader.peek().isName()) {
            throw new Fault(1, reader.peek().place);
        }
        Token name = knot(reader, count);
        if (!reader.is("=")) {
            int word = wordNamed(name.text);
            if (word < 0) {
                throw new Fault(4, name.place);
            }
            return (known, card, truly) -> truly ? known.has.get(card).contains(word)
                    : known.cut.get(card).containsAll(known.codes.get(word));
        }
        int field = fieldNamed(name.text);
        if (field < 0 || fields.get(field).isLaid()) {
            throw new Fault(4, name.place);
        }
        reader.next();
        int value = reader.number(0, fields.get(field).choice - 1).number();
        return (known, card, truly) -> truly ? known.values.get(card).getOrDefault(field, -1) == value
                : known.cut.get(card).containsAll(fields.get(field).code(value));
    }

    int fault(int what) {
        return what == 0 ? fault : what == 1 ? place : -1;
    }

    int named(int what, int letters) {
        for (int f = 0; what == 0 && f < fields.size(); f++) {
            if (Check.packed(fields.get(f).name) == letters) {
                return f;
            }
        }
        for (int w = 0; what == 1 && w < words.size(); w++) {
            if (Check.packed(words.get(w).name) == letters) {
                return w;
            }
        }
        return -1;
    }

    /** -100 and -200 for the two exceptions. */
    int look(int field, int what) {
        if (field < 0 || field >= fields.size()) {
            return -100;
        }
        Field f = fields.get(field);
        return switch (what) {
            case 0 -> Arrays.asList("one", "sums", "pairs", "laid").indexOf(f.kind);
            case 1 -> f.first;
            case 2 -> f.last;
            case 3 -> f.choice;
            default -> -200;
        };
    }

    private static long bits(Set<Integer> set) {
        long bits = 0;
        for (int one : set) {
            bits |= 1L << one;
        }
        return bits;
    }

    private boolean isValue(int field, int value) {
        return isPlain(field) && value >= 0 && value < fields.get(field).choice;
    }

    private boolean isPlain(int field) {
        return isField(field) && !fields.get(field).isLaid();
    }

    private boolean isField(int field) {
        return field >= 0 && field < fields.size();
    }

    private boolean isWord(int word) {
        return word >= 0 && word < words.size();
    }

    private boolean isCard(int card) {
        return card >= 0 && card < cards;
    }

    private boolean isBy(int n) {
        return n >= 0 && n <= notes.size();
    }

    long code(int field, int value) {
        return isValue(field, value) ? bits(fields.get(field).code(value)) : 0;
    }

    long coded(int n, int word) {
        return isBy(n) && isWord(word) ? bits(new Known(n).codes.get(word)) : 0;
    }

    int card() {
        if (cards == 30) {
            return -1;
        }
        packs.get(0).add(cards);
        return cards++;
    }

    private int note(boolean isRight, int kind, int a, int b, int c) {
        if (!isRight || notes.size() == 150) {
            return -1;
        }
        notes.add(new Note(kind, a, b, c));
        return notes.size() - 1;
    }

    int set(int card, int field, int value) {
        return note(isCard(card) && isValue(field, value), 0, card, field, value);
    }

    int put(int card, int word) {
        return note(isCard(card) && isWord(word), 1, card, word, 0);
    }

    int tear(int card, int hole, boolean mended) {
        return note(isCard(card) && hole >= 0 && hole < holes, mended ? 3 : 2, card, hole, 0);
    }

    int recode(int word, int bits) {
        if (!isWord(word)) {
            return -1;
        }
        Field field = words.get(word).field;
        int inside = 0;
        int all = 0;
        for (int h = 0; h < 32; h++) {
            all += bits >>> h & 1;
            inside += h < field.width() ? bits >>> h & 1 : 0;
        }
        return note(inside == all && all == field.choice, 4, word, bits, 0);
    }

    int strike(int note) {
        return note(note >= 0 && note < notes.size(), 5, note, 0, 0);
    }

    long notched(int n, int card) {
        return isBy(n) && isCard(card) ? bits(new Known(n).cut.get(card)) : -1;
    }

    int truly(int n, int card, int field) {
        if (!isBy(n) || !isCard(card) || !isField(field)) {
            return -2;
        }
        Known known = new Known(n);
        if (isPlain(field)) {
            return known.values.get(card).getOrDefault(field, -1);
        }
        Set<Integer> those = new TreeSet<>(known.has.get(card));
        those.removeIf(w -> words.get(w).field != fields.get(field));
        return (int) bits(those);
    }

    boolean turn(int card) {
        if (!isCard(card)) {
            return false;
        }
        if (!over.remove(card)) {
            over.add(card);
        }
        return true;
    }

    int turned() {
        return (int) bits(over);
    }

    private boolean isPack(int pack) {
        return pack >= 0 && pack < 6;
    }

    int pack(int pack, int k) {
        return isPack(pack) && k >= 0 && k < packs.get(pack).size() ? packs.get(pack).get(k) : -1;
    }

    int drops(int pack, long through) {
        if (!isPack(pack)) {
            return -1;
        }
        Set<Integer> needles = new TreeSet<>();
        for (int h = 0; h < holes; h++) {
            if ((through >>> h & 1) != 0) {
                needles.add(h);
            }
        }
        Known known = new Known(notes.size());
        Set<Integer> those = new TreeSet<>(packs.get(pack));
        those.removeIf(c -> !isDropping(known, c, needles));
        return (int) bits(those);
    }

    int gather() {
        for (List<Integer> pack : packs) {
            pack.clear();
        }
        for (int c = 0; c < cards; c++) {
            packs.get(0).add(c);
        }
        over.clear();
        return cards;
    }

    int ask(int n, int what) {
        if (question == null || !isBy(n) || what < 0 || what > 3) {
            return -1;
        }
        Known known = new Known(n);
        Set<Integer> those = new TreeSet<>();
        for (int c = 0; c < cards; c++) {
            boolean byHoles = question.holds(known, c, false);
            boolean truly = question.holds(known, c, true);
            boolean[] all = {byHoles, truly, byHoles && !truly, truly && !byHoles};
            if (all[what]) {
                those.add(c);
            }
        }
        return (int) bits(those);
    }

    private static List<Set<Integer>> choices(List<Integer> of, int size) {
        List<Set<Integer>> all = new ArrayList<>();
        if (size == 0) {
            all.add(new TreeSet<>());
            return all;
        }
        for (int i = 0; i < of.size(); i++) {
            for (Set<Integer> rest : choices(of.subList(i + 1, of.size()), size - 1)) {
                rest.add(of.get(i));
                all.add(rest);
            }
        }
        return all;
    }

    private static List<Integer> holesOf(Field field) {
        List<Integer> holes = new ArrayList<>();
        for (int h = field.first; h <= field.last; h++) {
            holes.add(h);
        }
        return holes;
    }

    private int dropping(Known known, int word, Set<Integer> code) {
        int count = 0;
        for (int c = 0; c < cards; c++) {
            count += !known.has.get(c).contains(word) && known.cut.get(c).containsAll(code) ? 1 : 0;
        }
        return count;
    }

    long likely(int n, int word, int what) {
        if (!isBy(n) || !isWord(word) || what < 0 || what > 1) {
            return -1;
        }
        Field field = words.get(word).field;
        List<Set<Integer>> all = choices(holesOf(field), field.choice);
        if (what == 1) {
            return all.size();
        }
        Known known = new Known(n);
        long sum = 0;
        for (Set<Integer> code : all) {
            sum += dropping(known, word, code);
        }
        return sum;
    }

    int falsely(int n, int word) {
        if (!isBy(n) || !isWord(word)) {
            return -1;
        }
        Known known = new Known(n);
        return dropping(known, word, known.codes.get(word));
    }

    int best(int n, int word) {
        if (!isBy(n) || !isWord(word)) {
            return -1;
        }
        Known known = new Known(n);
        Field field = words.get(word).field;
        long least = Long.MAX_VALUE;
        for (Set<Integer> code : choices(holesOf(field), field.choice)) {
            long shared = 0;
            for (int w = 0; w < words.size(); w++) {
                Set<Integer> common = new TreeSet<>(code);
                common.retainAll(known.codes.get(w));
                shared += w == word ? 0 : common.size();
            }
            long weight = ((long) dropping(known, word, code) * 1000 + shared) << 32 | bits(code) >> field.first;
            least = Math.min(least, weight);
        }
        return (int) least;
    }

    int means(int n, int card, int field, int t, int what) {
        if (!isBy(n) || !isCard(card) || !isField(field) || t < 0 || t > 9 || what < 0 || what > 2) {
            return -2;
        }
        Known known = new Known(n);
        Field f = fields.get(field);
        Set<Integer> cut = known.cutOf(card, f);
        List<Set<Integer>> found = new ArrayList<>();
        if (f.isLaid()) {
            for (int set = 0; set < 1 << words.size(); set++) {
                Set<Integer> those = new TreeSet<>();
                Set<Integer> left = new TreeSet<>(cut);
                boolean isRight = true;
                for (int w = 0; w < words.size(); w++) {
                    if ((set >> w & 1) != 0) {
                        those.add(w);
                        isRight &= words.get(w).field == f && cut.containsAll(known.codes.get(w));
                        left.removeAll(known.codes.get(w));
                    }
                }
                if (isRight && left.size() <= t) {
                    found.add(those);
                }
            }
        } else {
            for (int v = 0; v < f.choice; v++) {
                if (cut.containsAll(f.code(v)) && cut.size() - f.code(v).size() <= t) {
                    found.add(new TreeSet<>(Collections.singleton(v)));
                }
            }
        }
        if (what == 2) {
            return found.size();
        }
        Set<Integer> some = new TreeSet<>();
        for (Set<Integer> one : found) {
            some.addAll(one);
        }
        if (what == 1) {
            return (int) bits(some);
        }
        if (!f.isLaid()) {
            return found.size() == 1 ? found.get(0).iterator().next() : -1;
        }
        for (Set<Integer> one : found) {
            some.retainAll(one);
        }
        return (int) bits(some);
    }

    private List<Integer> valuesOf(List<Integer> row, int field) {
        Known known = new Known(notes.size());
        List<Integer> values = new ArrayList<>();
        for (int card : row) {
            values.add(known.values.get(card).getOrDefault(field, -1));
        }
        return values;
    }

    int behind(int pack, int field) {
        if (!isPack(pack) || !isPlain(field)) {
            return -1;
        }
        // Longest row that never falls, by its least last value for each length.
        List<Integer> ends = new ArrayList<>();
        for (int value : valuesOf(packs.get(pack), field)) {
            int at = 0;
            while (at < ends.size() && ends.get(at) <= value) {
                at++;
            }
            if (at == ends.size()) {
                ends.add(value);
            } else {
                ends.set(at, value);
            }
        }
        return packs.get(pack).size() - ends.size();
    }

    int sort(int pack, int field, int what) {
        if (!isPack(pack) || !isPlain(field) || fields.get(field).width() > 6 || what < 0) {
            return -1;
        }
        Known known = new Known(notes.size());
        for (int size = 0; size <= fields.get(field).width(); size++) {
            List<Integer> row = row(known, packs.get(pack), field, size, new ArrayList<>());
            if (row != null) {
                return what == 0 ? size : what > size ? -1 : row.get(what - 1);
            }
        }
        return -2;
    }

    private List<Integer> row(Known known, List<Integer> pack, int field, int left, List<Integer> used) {
        if (left == 0) {
            List<Integer> values = valuesOf(pack, field);
            List<Integer> sorted = new ArrayList<>(values);
            Collections.sort(sorted);
            return values.equals(sorted) ? used : null;
        }
        for (int hole : holesOf(fields.get(field))) {
            if (used.contains(hole)) {
                continue;
            }
            List<Integer> lifted = new ArrayList<>();
            List<Integer> dropped = new ArrayList<>();
            for (int card : pack) {
                (isDropping(known, card, Collections.singleton(hole)) ? dropped : lifted).add(card);
            }
            lifted.addAll(dropped);
            List<Integer> more = new ArrayList<>(used);
            more.add(hole);
            List<Integer> found = row(known, lifted, field, left - 1, more);
            if (found != null) {
                return found;
            }
        }
        return null;
    }

    int count(int what) {
        int[] all = {holes, fields.size(), words.size(), cards, notes.size(), knots, passes, done};
        return what >= 0 && what < all.length ? all[what] : -1;
    }
}
