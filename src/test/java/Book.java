import java.util.function.IntSupplier;

/**
 * A GuideWords with heads told as texts and exceptions told as answers. It counts its calls, since
 * the document promises nothing behind the 512th.
 */
final class Book {
    static final int MOST_CALLS = 512;

    private final GuideWords words = new GuideWords();
    private int calls;

    static Book of(int height, int columns, int letter, int split, int turn) {
        Book book = new Book();
        int[] values = {height, columns, letter, split, turn};
        for (int what = 0; what < values.length; what++) {
            book.set(what, values[what]);
        }
        return book;
    }

    private int call(IntSupplier call) {
        calls++;
        if (calls > MOST_CALLS) {
            throw new AssertionError("the test makes more calls than an object promises");
        }
        return Answer.of(call);
    }

    int calls() {
        return calls;
    }

    int set(int what, int v) {
        return call(() -> words.set(what, v));
    }

    int push(int lines) {
        return call(() -> words.push(lines));
    }

    int feed(int a, int b, int c, int d, int e) {
        return call(() -> words.feed(a, b, c, d, e));
    }

    /** Feeds as often as the text needs, at least once; zeros come behind the text. */
    int feed(String text) {
        int answer = 0;
        for (int from = 0; from == 0 || from < text.length(); from += 20) {
            int[] n = new int[5];
            for (int k = from; k < Math.min(from + 20, text.length()); k++) {
                n[(k - from) / 4] |= (text.charAt(k) & 255) << (24 - 8 * (k % 4));
            }
            answer = feed(n[0], n[1], n[2], n[3], n[4]);
        }
        return answer;
    }

    int entry(int n) {
        return call(() -> words.entry(n));
    }

    int entry(String head, int... lines) {
        feed(head);
        for (int line : lines) {
            push(line);
        }
        return entry(head.length());
    }

    int see(int n, int m) {
        return call(() -> words.see(n, m));
    }

    int see(String head, String meant) {
        feed(head + meant);
        return see(head.length(), meant.length());
    }

    /** SEEs till there are so many entries in all; each means the head of the one that comes next. */
    void fill(int entries) {
        for (int k = count(1); k < entries; k++) {
            see(name(k), name(k + 1));
        }
    }

    static String name(int k) {
        return "" + (char) ('a' + k / 26) + (char) ('a' + k % 26);
    }

    int drop(int entry) {
        return call(() -> words.drop(entry) ? 1 : 0);
    }

    int order(int k) {
        return call(() -> words.order(k));
    }

    int leads(int entry) {
        return call(() -> words.leads(entry));
    }

    int set() {
        return call(words::set);
    }

    int told(int what) {
        return call(() -> words.told(what));
    }

    int column(int k, int what) {
        return call(() -> words.column(k, what));
    }

    int where(int entry, int sense) {
        return call(() -> words.where(entry, sense));
    }

    int guide(int page, int which) {
        return call(() -> words.guide(page, which));
    }

    int thumb(int letter, int length) {
        return call(() -> words.thumb(letter, length));
    }

    int volume() {
        return call(words::volume);
    }

    int count(int what) {
        return call(() -> words.count(what));
    }

    /** All that can be asked of what is SET, but for where. */
    String setting() {
        StringBuilder text = new StringBuilder("told");
        for (int what = 0; what < 5; what++) {
            text.append(' ').append(told(what));
        }
        for (int k = told(2) - 1; k >= 0; k--) {
            text.append(" column");
            for (int what = 0; what < 4; what++) {
                text.append(' ').append(column(k, what));
            }
        }
        for (int page = told(1) - 1; page >= 0; page--) {
            text.append(" guides ").append(guide(page, 0)).append(' ').append(guide(page, 1));
        }
        return text.toString();
    }

    /** How many blocks each column has, the first one first. */
    String columns() {
        StringBuilder text = new StringBuilder();
        int columns = told(2);
        for (int k = 0; k < columns; k++) {
            text.append(k == 0 ? "" : " ").append(column(k, 2));
        }
        return text.toString();
    }

    /** The entries in order. */
    String inOrder() {
        StringBuilder text = new StringBuilder();
        int there = count(0);
        for (int k = 0; k < there; k++) {
            text.append(k == 0 ? "" : " ").append(order(k));
        }
        return text.toString();
    }

    /** All that can be asked, but for where: a call that does nothing leaves it the same. */
    String all() {
        StringBuilder text = new StringBuilder("counts");
        for (int what = 0; what < 4; what++) {
            text.append(' ').append(count(what));
        }
        text.append(" order ").append(inOrder()).append(" leads");
        for (int entry = count(1) - 1; entry >= 0; entry--) {
            text.append(' ').append(leads(entry));
        }
        return text.append(' ').append(setting()).append(" volume ").append(volume()).toString();
    }
}
