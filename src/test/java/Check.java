import java.nio.charset.StandardCharsets;

/** What all tests share: texts put on the tape, answers held against those that are due. */
final class Check {
    static final String PLAN = "holes 30;field kind one 0 3;field year sums 4;field no pairs 8;field topic laid 13 22 2;"
            + "word topic iron 0 1;word topic wood 2 3;word topic clay 1 2;";

    private final String name;
    private int checks;
    private int wrong;

    Check(String name) {
        this.name = name;
    }

    void due(String call, long got, long want) {
        checks++;
        if (got != want) {
            wrong++;
            System.out.println(name + ": " + call + " answered " + got + ", due is " + want);
        }
    }

    void dueText(String call, String got, String want) {
        checks++;
        if (!got.equals(want)) {
            wrong++;
            System.out.println(name + ": " + call + " is\n" + got + "\ndue is\n" + want);
        }
    }

    void fault(NotchedCards x, String text, int fault, int place) {
        due(text + " | its fault", x.fault(0), fault);
        due(text + " | its place", x.fault(1), place);
    }

    void planFault(String text, int fault, int place) {
        NotchedCards x = new NotchedCards();
        due(text, plan(x, text), NotchedCards.NONE);
        fault(x, text, fault, place);
    }

    /** A plan with a fault; ^ stands ahead of its place. */
    void planFault(int fault, String marked) {
        planFault(unmarked(marked), fault, marked.indexOf('^'));
    }

    static String unmarked(String marked) {
        return marked.replace("^", "");
    }

    void end() {
        System.out.println(name + ": " + checks + " checks, " + wrong + " wrong");
        if (wrong != 0) {
            System.exit(1);
        }
    }

    static void feed(NotchedCards x, byte[] text) {
        for (int i = 0; i < text.length; i += 20) {
            x.feed(four(text, i), four(text, i + 4), four(text, i + 8), four(text, i + 12), four(text, i + 16));
        }
    }

    private static int four(byte[] text, int from) {
        int number = 0;
        for (int i = from; i < from + 4; i++) {
            number = number << 8 | (i < text.length ? text[i] & 255 : ' ');
        }
        return number;
    }

    static void feed(NotchedCards x, String text) {
        feed(x, text.getBytes(StandardCharsets.ISO_8859_1));
    }

    static int plan(NotchedCards x, String text) {
        feed(x, text);
        return x.plan(text.length());
    }

    static int work(NotchedCards x, String text) {
        feed(x, text);
        return x.work(text.length());
    }

    static int question(NotchedCards x, String text) {
        feed(x, text);
        return x.question(text.length());
    }

    static int packed(String letters) {
        int packed = 0;
        for (int i = 0; i < 6; i++) {
            packed = packed << 5 | (i < letters.length() ? letters.charAt(i) - 'a' + 1 : 0);
        }
        return packed;
    }

    /** An object with a plan and so many cards. */
    static NotchedCards made(String plan, int cards) {
        NotchedCards x = new NotchedCards();
        if (plan(x, plan) < 0) {
            throw new IllegalStateException("a wrong plan in a test: " + plan);
        }
        for (int i = 0; i < cards; i++) {
            x.card();
        }
        return x;
    }

    static String row(NotchedCards x, int pack) {
        StringBuilder row = new StringBuilder();
        for (int k = 0; x.pack(pack, k) != NotchedCards.NONE; k++) {
            row.append(k == 0 ? "" : " ").append(x.pack(pack, k));
        }
        return row.toString();
    }

    void dueRow(String call, NotchedCards x, int pack, String want) {
        checks++;
        String got = row(x, pack);
        if (!got.equals(want)) {
            wrong++;
            System.out.println(name + ": " + call + ": pack " + pack + " is " + got + ", due is " + want);
        }
    }
}
