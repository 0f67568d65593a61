import java.util.Arrays;

/** A setter of dictionaries; ../shared/DOC.md tells what each call promises. */
public final class GuideWords {
    public static final int NONE = -1;

    private static final int RING = -2;

    private static final int NO_HEAD = -1;
    private static final int NO_SENSES = -2;
    private static final int NO_ROOM = -3;

    private static final int MOST_ENTRIES = 150;
    private static final int MOST_SENSES = 6;
    private static final int MOST_BLOCKS = MOST_ENTRIES * MOST_SENSES;
    private static final int MOST_LINES = 20;
    private static final int MOST_LENGTH = 10000;
    private static final int ALPHABET = 26;

    private static final int HEIGHT = 0;
    private static final int COLUMNS = 1;
    private static final int LETTER = 2;
    private static final int SPLIT = 3;
    private static final int TURN = 4;
    private static final int VALUES = 5;
    private static final int[] LOWEST = {4, 1, 0, 0, 0};
    private static final int[] HIGHEST = {60, 4, 3, 1000, 1000};
    private static final int MOST_COLUMNS_ON_PAGE = 4;

    private static final int[] LINES_OF_SEE = {1};

    private final int[] values;
    private final int[] pushed;
    private int pushedCount;
    private final Tape tape;
    private final Lexicon lexicon;
    private final Typesetter typesetter;
    private final int[] letterLines;
    /** What is SET; without COLUMNS as long as nothing is. */
    private Setting standing;
    private Setting draft;
    private int changedPages;

    public GuideWords() {
        values = new int[VALUES];
        values[HEIGHT] = 20;
        values[COLUMNS] = 2;
        values[LETTER] = 2;
        values[SPLIT] = 10;
        values[TURN] = 20;
        pushed = new int[MOST_SENSES];
        tape = new Tape();
        lexicon = new Lexicon();
        typesetter = new Typesetter();
        letterLines = new int[ALPHABET];
        standing = new Setting();
        draft = new Setting();
    }

    public int set(int what, int v) throws IllegalArgumentException {
        if (what < 0 || what >= VALUES) {
            throw new IllegalArgumentException("no such value");
        }
        if (v < LOWEST[what] || v > HIGHEST[what]) {
            throw new IllegalArgumentException("out of the value's range");
        }
        int before = values[what];
        values[what] = v;
        return before;
    }

    public int push(int lines) throws IllegalArgumentException {
        if (lines < 1 || lines > MOST_LINES) {
            throw new IllegalArgumentException("a sense has 1 to 20 lines");
        }
        if (pushedCount >= MOST_SENSES) {
            return NONE;
        }
        pushed[pushedCount] = lines;
        pushedCount++;
        return pushedCount;
    }

    public int feed(int a, int b, int c, int d, int e) {
        if (!tape.hasRoom()) {
            return NONE;
        }
        tape.append(a);
        tape.append(b);
        tape.append(c);
        tape.append(d);
        tape.append(e);
        return tape.length();
    }

    public int entry(int n) throws IllegalArgumentException {
        if (n < 0 || n > tape.length()) {
            throw new IllegalArgumentException("not so many bytes");
        }
        long head = tape.headAt(0, n);
        int senses = pushedCount;
        tape.clear();
        pushedCount = 0;
        if (head == Tape.NO_WORD) {
            return NO_HEAD;
        }
        if (senses == 0) {
            return NO_SENSES;
        }
        return lexicon.admit(head, Tape.NO_WORD, pushed, senses);
    }

    public int see(int n, int m) throws IllegalArgumentException {
        int bytes = tape.length();
        // Both are within the tape before they are added, so the sum can't wrap around.
        if (n < 0 || n > bytes || m < 0 || m > bytes || n + m > bytes) {
            throw new IllegalArgumentException("not so many bytes");
        }
        long head = tape.headAt(0, n);
        long meant = tape.headAt(n, m);
        tape.clear();
        if (head == Tape.NO_WORD || meant == Tape.NO_WORD) {
            return NO_HEAD;
        }
        return lexicon.admit(head, meant, LINES_OF_SEE, 1);
    }

    public boolean drop(int entry) throws IndexOutOfBoundsException {
        checkEntry(entry);
        return lexicon.remove(entry);
    }

    public int order(int k) {
        return lexicon.inOrder(k);
    }

    public int leads(int entry) throws IndexOutOfBoundsException {
        checkEntry(entry);
        return lexicon.follow(entry);
    }

    public int set() {
        if (!typesetter.compose(values, lexicon, draft)) {
            return NONE;
        }
        Setting before = standing;
        standing = draft;
        draft = before;
        changedPages = standing.pagesUnlike(before);
        return standing.cost;
    }

    public int told(int what) throws IllegalArgumentException {
        switch (what) {
            case 0:
                return standing.cost;
            case 1:
                return standing.pageCount;
            case 2:
                return standing.columnCount;
            case 3:
                return standing.blockCount;
            case 4:
                return changedPages;
            default:
                throw new IllegalArgumentException("no such number is told");
        }
    }

    public int column(int k, int what) throws IndexOutOfBoundsException, IllegalArgumentException {
        if (k < 0 || k >= standing.columnCount) {
            throw new IndexOutOfBoundsException("no such column");
        }
        int first = standing.starts[k];
        switch (what) {
            case 0:
                return standing.entryOf(first);
            case 1:
                return standing.senseOf(first);
            case 2:
                return standing.starts[k + 1] - first;
            case 3:
                return standing.columnLines[k];
            default:
                throw new IllegalArgumentException("no such number of a column");
        }
    }

    public int where(int entry, int sense) throws IndexOutOfBoundsException {
        checkEntry(entry);
        if (sense < 0 || sense >= MOST_SENSES) {
            return NONE;
        }
        return standing.columnWith(entry * MOST_SENSES + sense);
    }

    public int guide(int page, int which) throws IndexOutOfBoundsException, IllegalArgumentException {
        if (page < 0 || page >= standing.pageCount) {
            throw new IndexOutOfBoundsException("no such page");
        }
        if (which != 0 && which != 1) {
            throw new IllegalArgumentException("a page has a first and a last guide");
        }
        return which == 0 ? standing.firstGuide(page) : standing.lastGuide(page);
    }

    public int thumb(int letter, int length) throws IllegalArgumentException {
        if (letter < 0 || letter >= ALPHABET) {
            throw new IllegalArgumentException("no such letter");
        }
        if (length < 1 || length > MOST_LENGTH) {
            throw new IllegalArgumentException("an edge is 1 to 10,000 long");
        }
        int all = lexicon.sumLines(letterLines, values[LETTER]);
        int own = letterLines[letter];
        if (own == 0 || all == 0) {
            return NONE;
        }
        int ahead = 0;
        for (int k = 0; k < letter; k++) {
            ahead += letterLines[k];
        }
        // Doubled above and below, so that the half is not cut by itself.
        return length * (2 * ahead + own) / (2 * all);
    }

    public int volume() {
        int all = lexicon.sumLines(letterLines, values[LETTER]);
        int best = NONE;
        int leastUnlike = 0;
        int ahead = 0;
        for (int letter = 0; letter < ALPHABET; letter++) {
            int own = letterLines[letter];
            // Nothing ahead: the first letter there is, or a letter that none has.
            if (own > 0 && ahead > 0) {
                int unlike = Math.abs(all - 2 * ahead);
                if (best == NONE || unlike < leastUnlike) {
                    best = letter;
                    leastUnlike = unlike;
                }
            }
            ahead += own;
        }
        return best;
    }

    public int count(int what) {
        switch (what) {
            case 0:
                return lexicon.present;
            case 1:
                return lexicon.all;
            case 2:
                return pushedCount;
            case 3:
                return tape.length();
            default:
                return NONE;
        }
    }

    private void checkEntry(int entry) {
        if (entry < 0 || entry >= lexicon.all) {
            throw new IndexOutOfBoundsException("there was no such entry");
        }
    }

    /** The bytes that were fed, and the heads that are read from them. */
    private static final class Tape {
        static final long NO_WORD = 0L;

        private static final int MOST_BYTES = 60;
        private static final int FED_AT_ONCE = 20;
        private static final int MOST_LETTERS = 12;
        private static final int LETTER_BITS = 5;
        private static final int FIRST_LETTER_SHIFT = (MOST_LETTERS - 1) * LETTER_BITS;

        private final int[] bytes;
        private int size;

        Tape() {
            bytes = new int[MOST_BYTES];
        }

        boolean hasRoom() {
            return size + FED_AT_ONCE <= MOST_BYTES;
        }

        int length() {
            return size;
        }

        void clear() {
            size = 0;
        }

        void append(int fourBytes) {
            for (int shift = 24; shift >= 0; shift -= 8) {
                if (size < MOST_BYTES) {
                    bytes[size] = (fourBytes >>> shift) & 255;
                    size++;
                }
            }
        }

        /**
         * The head in so many bytes, or NO_WORD. Letters are 1 to 26 in five bits each, the first
         * one highest and zeros behind the last: so numbers compare as heads are ordered.
         */
        long headAt(int from, int letters) {
            if (letters < 1 || letters > MOST_LETTERS || from < 0 || from > size - letters) {
                return NO_WORD;
            }
            long word = 0L;
            int shift = FIRST_LETTER_SHIFT;
            for (int k = from; k < from + letters; k++) {
                int letter = bytes[k] - 'a';
                if (letter < 0 || letter >= ALPHABET) {
                    return NO_WORD;
                }
                word |= (long) (letter + 1) << shift;
                shift -= LETTER_BITS;
            }
            return word;
        }

        static int firstLetter(long head) {
            return (int) (head >>> FIRST_LETTER_SHIFT) - 1;
        }
    }

    /** All entries by number, and those that are there in order. */
    private static final class Lexicon {
        private final long[] heads;
        /** The head that a SEE means; NO_WORD for an entry that does not say SEE. */
        private final long[] meant;
        private final int[] senses;
        private final int[] lines;
        private final boolean[] dropped;
        private final int[] ordered;
        private final int[] passed;
        private int all;
        private int present;

        Lexicon() {
            heads = new long[MOST_ENTRIES];
            meant = new long[MOST_ENTRIES];
            senses = new int[MOST_ENTRIES];
            lines = new int[MOST_BLOCKS];
            dropped = new boolean[MOST_ENTRIES];
            ordered = new int[MOST_ENTRIES];
            passed = new int[MOST_ENTRIES];
        }

        int admit(long head, long meantHead, int[] senseLines, int senseCount) {
            if (all >= MOST_ENTRIES) {
                return NO_ROOM;
            }
            int entry = all;
            heads[entry] = head;
            meant[entry] = meantHead;
            senses[entry] = senseCount;
            for (int k = 0; k < senseCount; k++) {
                lines[entry * MOST_SENSES + k] = senseLines[k];
            }
            // A newcomer's number is the highest, so it stands behind all heads alike.
            int place = headsBelow(head + 1L);
            for (int k = present; k > place; k--) {
                ordered[k] = ordered[k - 1];
            }
            ordered[place] = entry;
            present++;
            all++;
            return entry;
        }

        boolean remove(int entry) {
            if (dropped[entry]) {
                return false;
            }
            dropped[entry] = true;
            int kept = 0;
            for (int k = 0; k < present; k++) {
                if (ordered[k] != entry) {
                    ordered[kept] = ordered[k];
                    kept++;
                }
            }
            present = kept;
            return true;
        }

        int inOrder(int k) {
            return k < 0 || k >= present ? NONE : ordered[k];
        }

        int letterOf(int entry) {
            return Tape.firstLetter(heads[entry]);
        }

        int follow(int entry) {
            Arrays.fill(passed, 0);
            int at = entry;
            for (int hop = 0; hop <= MOST_ENTRIES; hop++) {
                if (meant[at] == Tape.NO_WORD) {
                    return at;
                }
                if (passed[at] != 0) {
                    return RING;
                }
                passed[at] = 1;
                int next = firstWith(meant[at]);
                if (next == NONE) {
                    return NONE;
                }
                at = next;
            }
            return RING;
        }

        /** Adds up the lines of each letter into a row, and answers those of all together. */
        int sumLines(int[] ofLetters, int aboveLetter) {
            Arrays.fill(ofLetters, 0);
            int sum = 0;
            for (int k = 0; k < present; k++) {
                int entry = ordered[k];
                int letter = letterOf(entry);
                int more = ofLetters[letter] == 0 ? aboveLetter : 0;
                for (int sense = 0; sense < senses[entry]; sense++) {
                    more += lines[entry * MOST_SENSES + sense];
                }
                ofLetters[letter] += more;
                sum += more;
            }
            return sum;
        }

        private int firstWith(long head) {
            int place = headsBelow(head);
            if (place < present && heads[ordered[place]] == head) {
                return ordered[place];
            }
            return NONE;
        }

        /** How many of the entries that are there have a head below this one. */
        private int headsBelow(long head) {
            int low = 0;
            int high = present;
            for (int turn = 0; turn < MOST_ENTRIES && low < high; turn++) {
                int middle = (low + high) / 2;
                if (heads[ordered[middle]] < head) {
                    low = middle + 1;
                } else {
                    high = middle;
                }
            }
            return low;
        }
    }

    /** Finds the best setting of the entries that are there. */
    private static final class Typesetter {
        private static final int MAY_NOT_BREAK = 0;
        private static final int ENDS_ENTRY = 1;
        private static final int SPLITS_ENTRY = 2;

        /** A weight is a cost and, below it, a number of columns: the lesser weight is the better. */
        private static final long COST_UNIT = 1024L;
        private static final long NO_WAY = 1000000000000000000L;

        private final int[] values;
        private final int[] lines;
        private final int[] breaks;
        /** Least weight of the blocks from one on, by this block and the place of its column on the page. */
        private final long[] least;
        private int blocks;

        Typesetter() {
            values = new int[VALUES];
            lines = new int[MOST_BLOCKS];
            breaks = new int[MOST_BLOCKS];
            least = new long[MOST_BLOCKS * MOST_COLUMNS_ON_PAGE];
        }

        /** Puts the best setting into the draft; false if there is none. */
        boolean compose(int[] chosen, Lexicon lexicon, Setting draft) {
            System.arraycopy(chosen, 0, values, 0, VALUES);
            gather(lexicon, draft);
            if (blocks == 0) {
                return false;
            }
            for (int first = blocks - 1; first >= 0; first--) {
                for (int place = 0; place < values[COLUMNS]; place++) {
                    weigh(first, place);
                }
            }
            if (least[0] == NO_WAY) {
                return false;
            }
            layOut(draft);
            draft.cost = (int) (least[0] / COST_UNIT);
            return true;
        }

        private void gather(Lexicon lexicon, Setting draft) {
            blocks = 0;
            int letter = NONE;
            for (int k = 0; k < lexicon.present; k++) {
                int entry = lexicon.ordered[k];
                int above = lexicon.letterOf(entry) == letter ? 0 : values[LETTER];
                letter = lexicon.letterOf(entry);
                int senses = lexicon.senses[entry];
                for (int sense = 0; sense < senses && blocks < MOST_BLOCKS; sense++) {
                    int block = entry * MOST_SENSES + sense;
                    draft.blocks[blocks] = block;
                    lines[blocks] = lexicon.lines[block] + (sense == 0 ? above : 0);
                    breaks[blocks] = breakBehind(sense, senses, lexicon.lines[block]);
                    blocks++;
                }
            }
            draft.blockCount = blocks;
        }

        private static int breakBehind(int sense, int senses, int ownLines) {
            if (sense == senses - 1) {
                return ENDS_ENTRY;
            }
            return sense > 0 || ownLines >= 2 ? SPLITS_ENTRY : MAY_NOT_BREAK;
        }

        /**
         * Keeps the least weight of the blocks from the first one on, with a column at this place,
         * and answers the block behind that column: of equals the one with the most blocks.
         */
        private int weigh(int first, int place) {
            int next = placeBehind(place);
            long best = NO_WAY;
            int end = first;
            int used = 0;
            for (int last = first; last < blocks; last++) {
                used += lines[last];
                if (used > values[HEIGHT]) {
                    break;
                }
                long weight = weightOf(last, used, next);
                if (weight != NO_WAY && weight <= best) {
                    best = weight;
                    end = last + 1;
                }
            }
            least[first * MOST_COLUMNS_ON_PAGE + place] = best;
            return end;
        }

        /** Weight of a column with this last block and of all behind it, where the next place is told. */
        private long weightOf(int last, int used, int next) {
            if (last == blocks - 1) {
                return 1L;
            }
            if (breaks[last] == MAY_NOT_BREAK) {
                return NO_WAY;
            }
            long behind = least[(last + 1) * MOST_COLUMNS_ON_PAGE + next];
            if (behind == NO_WAY) {
                return NO_WAY;
            }
            int empty = values[HEIGHT] - used;
            int cost = empty * empty;
            if (breaks[last] == SPLITS_ENTRY) {
                cost += values[SPLIT] + (next == 0 ? values[TURN] : 0);
            }
            return behind + cost * COST_UNIT + 1L;
        }

        private int placeBehind(int place) {
            return place + 1 >= values[COLUMNS] ? 0 : place + 1;
        }

        private void layOut(Setting draft) {
            draft.openEmpty(values[COLUMNS]);
            int first = 0;
            int place = 0;
            for (int column = 0; column < MOST_BLOCKS && first < blocks; column++) {
                int end = weigh(first, place);
                int used = 0;
                for (int k = first; k < end; k++) {
                    used += lines[k];
                }
                draft.addColumn(end, used, place == 0);
                first = end;
                place = placeBehind(place);
            }
        }
    }

    /** A setting as it was made, with its own columns on a page. */
    private static final class Setting {
        /** Each block is its entry times MOST_SENSES and its sense. */
        private final int[] blocks;
        /** The first block of each column, and behind them all the number of blocks. */
        private final int[] starts;
        private final int[] columnLines;
        private int blockCount;
        private int columnCount;
        private int columnsOnPage;
        private int pageCount;
        private int cost;

        Setting() {
            blocks = new int[MOST_BLOCKS];
            starts = new int[MOST_BLOCKS + 1];
            columnLines = new int[MOST_BLOCKS];
        }

        void openEmpty(int onPage) {
            columnsOnPage = onPage;
            columnCount = 0;
            pageCount = 0;
            starts[0] = 0;
        }

        void addColumn(int end, int lines, boolean beginsPage) {
            columnLines[columnCount] = lines;
            columnCount++;
            starts[columnCount] = end;
            if (beginsPage) {
                pageCount++;
            }
        }

        int entryOf(int place) {
            return blocks[place] / MOST_SENSES;
        }

        int senseOf(int place) {
            return blocks[place] % MOST_SENSES;
        }

        int columnWith(int block) {
            for (int column = 0; column < columnCount; column++) {
                for (int k = starts[column]; k < starts[column + 1]; k++) {
                    if (blocks[k] == block) {
                        return column;
                    }
                }
            }
            return NONE;
        }

        int firstGuide(int page) {
            int from = starts[firstColumn(page)];
            int end = starts[endColumn(page)];
            for (int k = from; k < end; k++) {
                if (senseOf(k) == 0) {
                    return entryOf(k);
                }
            }
            return entryOf(from);
        }

        int lastGuide(int page) {
            int from = starts[firstColumn(page)];
            for (int k = starts[endColumn(page)] - 1; k >= from; k--) {
                if (senseOf(k) == 0) {
                    return entryOf(k);
                }
            }
            return entryOf(from);
        }

        int pagesUnlike(Setting other) {
            int pages = Math.max(pageCount, other.pageCount);
            int unlike = 0;
            for (int page = 0; page < pages; page++) {
                if (page >= pageCount || page >= other.pageCount || !likePage(other, page)) {
                    unlike++;
                }
            }
            return unlike;
        }

        private boolean likePage(Setting other, int page) {
            int mine = firstColumn(page);
            int theirs = other.firstColumn(page);
            int columns = endColumn(page) - mine;
            if (columns != other.endColumn(page) - theirs) {
                return false;
            }
            for (int k = 0; k < columns; k++) {
                if (!likeColumn(mine + k, other, theirs + k)) {
                    return false;
                }
            }
            return true;
        }

        private boolean likeColumn(int mine, Setting other, int theirs) {
            int from = starts[mine];
            int otherFrom = other.starts[theirs];
            int length = starts[mine + 1] - from;
            if (length != other.starts[theirs + 1] - otherFrom) {
                return false;
            }
            for (int k = 0; k < length; k++) {
                if (blocks[from + k] != other.blocks[otherFrom + k]) {
                    return false;
                }
            }
            return true;
        }

        private int firstColumn(int page) {
            return Math.min(page * columnsOnPage, columnCount);
        }

        private int endColumn(int page) {
            return Math.min((page + 1) * columnsOnPage, columnCount);
        }
    }
}
