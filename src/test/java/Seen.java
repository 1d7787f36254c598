import java.util.NoSuchElementException;

/** All that can be seen of an object without changing it, as one text; so that what "stays" can be held against it. */
final class Seen {
    private static final String[] NAMES = {"a", "b", "x", "y", "kind", "year", "no", "topic", "iron", "wood", "clay"};

    private final NotchedCards x;
    private final int[] counts = new int[8];
    private final StringBuilder text = new StringBuilder();

    private Seen(NotchedCards x) {
        this.x = x;
        for (int what = 0; what < counts.length; what++) {
            counts[what] = x.count(what);
            text.append(" count").append(what).append('=').append(counts[what]);
        }
    }

    /** With three cards and five notes some 150 calls: two of them are far below the 512 of an object. */
    static String of(NotchedCards x) {
        Seen seen = new Seen(x);
        seen.plan();
        seen.packs();
        for (int n = 0; n <= seen.counts[4]; n++) {
            seen.by(n);
        }
        return seen.text.toString();
    }

    private void plan() {
        for (String name : NAMES) {
            text.append(' ').append(name).append('=').append(x.named(0, Check.packed(name)));
            text.append('/').append(x.named(1, Check.packed(name)));
        }
        for (int field = 0; field < counts[1]; field++) {
            text.append(" field").append(field).append('=');
            for (int what = 0; what < 4; what++) {
                text.append(look(x, field, what)).append(',');
            }
        }
    }

    private void packs() {
        text.append(" turned=").append(x.turned());
        for (int pack = 0; pack < 6; pack++) {
            text.append(" pack").append(pack).append('=').append(Check.row(x, pack));
        }
    }

    private void by(int n) {
        text.append("\n by ").append(n);
        for (int word = 0; word < counts[2]; word++) {
            text.append(" code").append(word).append('=').append(x.coded(n, word));
        }
        for (int card = 0; card < counts[3]; card++) {
            text.append(" card").append(card).append('=').append(x.notched(n, card));
            for (int field = 0; field < counts[1]; field++) {
                text.append(',').append(x.truly(n, card, field));
            }
        }
        text.append(" ask=").append(x.ask(n, 0)).append(',').append(x.ask(n, 1));
    }

    /** -100: no such field, -200: no such what. */
    static int look(NotchedCards x, int field, int what) {
        try {
            return x.look(field, what);
        } catch (IndexOutOfBoundsException e) {
            return -100;
        } catch (NoSuchElementException e) {
            return -200;
        }
    }
}
