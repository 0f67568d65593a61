import java.util.ArrayList;
import java.util.HashSet;
import java.util.List;
import java.util.Objects;
import java.util.Random;
import java.util.Set;
import java.util.function.IntSupplier;

/**
 * Runs of calls by chance (with told seeds) on GuideWords and on a plain model: both answer the
 * same, and no other exception is ever thrown. Of few blocks the model tries every setting there
 * is; of many it finds the best one from the end on, which must be the same where both are found.
 */
public final class TrialTest {
    private static final int INDEX = Answer.INDEX;
    private static final int ARGUMENT = Answer.ARGUMENT;

    /** The document word by word, with texts and lists, and without a thought of speed. */
    private static final class Model {
        static final class Entry {
            String head;
            String meant;
            List<Integer> senses = new ArrayList<>();
            boolean dropped;
        }

        static final class Block {
            int entry;
            int sense;
            int lines;
            boolean mayBreak;
            boolean isLast;
        }

        /** The best columns from some block on; the rule of the document compares them one by one. */
        static final class Part {
            int cost;
            int columns;
            int blocks;
            Part behind;

            boolean isBetterThan(Part other) {
                if (other == null || cost != other.cost) {
                    return other == null || cost < other.cost;
                }
                if (columns != other.columns) {
                    return columns < other.columns;
                }
                Part mine = this;
                while (mine != null && mine.blocks == other.blocks) {
                    mine = mine.behind;
                    other = other.behind;
                }
                return mine != null && mine.blocks > other.blocks;
            }
        }

        /** So many blocks at most are tried in every way there is. */
        static final int FEW = 11;

        int[] values = {20, 2, 2, 10, 20};
        List<Entry> entries = new ArrayList<>();
        List<Integer> pushed = new ArrayList<>();
        StringBuilder tape = new StringBuilder();
        List<List<Block>> standing = new ArrayList<>();
        int columnsOnPage = 1;
        int cost;
        int changed;

        int set(int what, int v) {
            int[] low = {4, 1, 0, 0, 0};
            int[] high = {60, 4, 3, 1000, 1000};
            if (what < 0 || what > 4 || v < low[what] || v > high[what]) {
                return ARGUMENT;
            }
            int was = values[what];
            values[what] = v;
            return was;
        }

        int push(int lines) {
            if (lines < 1 || lines > 20) {
                return ARGUMENT;
            }
            if (pushed.size() == 6) {
                return -1;
            }
            pushed.add(lines);
            return pushed.size();
        }

        int feed(int[] numbers) {
            if (tape.length() == 60) {
                return -1;
            }
            for (int number : numbers) {
                for (int k = 3; k >= 0; k--) {
                    tape.append((char) (number >> (8 * k) & 255));
                }
            }
            return tape.length();
        }

        static boolean isHead(String text) {
            return text.matches("[a-z]{1,12}");
        }

        int entry(int n) {
            if (n < 0 || n > tape.length()) {
                return ARGUMENT;
            }
            Entry entry = new Entry();
            entry.head = tape.substring(0, n);
            entry.senses.addAll(pushed);
            tape.setLength(0);
            pushed.clear();
            if (!isHead(entry.head)) {
                return -1;
            }
            return entry.senses.isEmpty() ? -2 : add(entry);
        }

        int see(int n, int m) {
            if (n < 0 || m < 0 || (long) n + m > tape.length()) {
                return ARGUMENT;
            }
            Entry entry = new Entry();
            entry.head = tape.substring(0, n);
            entry.meant = tape.substring(n, n + m);
            entry.senses.add(1);
            tape.setLength(0);
            return isHead(entry.head) && isHead(entry.meant) ? add(entry) : -1;
        }

        int add(Entry entry) {
            if (entries.size() == 150) {
                return -3;
            }
            entries.add(entry);
            return entries.size() - 1;
        }

        boolean isNone(int entry) {
            return entry < 0 || entry >= entries.size();
        }

        int drop(int entry) {
            if (isNone(entry)) {
                return INDEX;
            }
            boolean was = entries.get(entry).dropped;
            entries.get(entry).dropped = true;
            return was ? 0 : 1;
        }

        List<Integer> ordered() {
            List<Integer> numbers = new ArrayList<>();
            for (int k = 0; k < entries.size(); k++) {
                if (!entries.get(k).dropped) {
                    numbers.add(k);
                }
            }
            numbers.sort((a, b) -> {
                int heads = entries.get(a).head.compareTo(entries.get(b).head);
                return heads != 0 ? heads : Integer.compare(a, b);
            });
            return numbers;
        }

        int order(int k) {
            List<Integer> numbers = ordered();
            return k < 0 || k >= numbers.size() ? -1 : numbers.get(k);
        }

        int leads(int entry) {
            if (isNone(entry)) {
                return INDEX;
            }
            Set<Integer> passed = new HashSet<>();
            List<Integer> numbers = ordered();
            int at = entry;
            while (entries.get(at).meant != null) {
                if (!passed.add(at)) {
                    return -2;
                }
                int next = -1;
                for (int k : numbers) {
                    if (next < 0 && entries.get(k).head.equals(entries.get(at).meant)) {
                        next = k;
                    }
                }
                if (next < 0) {
                    return -1;
                }
                at = next;
            }
            return at;
        }

        List<Block> blocks() {
            List<Block> all = new ArrayList<>();
            Set<Character> letters = new HashSet<>();
            for (int k : ordered()) {
                Entry entry = entries.get(k);
                for (int s = 0; s < entry.senses.size(); s++) {
                    Block block = new Block();
                    block.entry = k;
                    block.sense = s;
                    block.isLast = s == entry.senses.size() - 1;
                    block.mayBreak = block.isLast || s != 0 || entry.senses.get(s) >= 2;
                    block.lines = entry.senses.get(s) + (letters.add(entry.head.charAt(0)) ? values[2] : 0);
                    all.add(block);
                }
            }
            return all;
        }

        static int lines(List<Block> column) {
            int sum = 0;
            for (Block block : column) {
                sum += block.lines;
            }
            return sum;
        }

        int costOf(List<List<Block>> setting) {
            int sum = 0;
            for (int k = 0; k < setting.size() - 1; k++) {
                List<Block> column = setting.get(k);
                int empty = values[0] - lines(column);
                sum += empty * empty;
                if (!column.get(column.size() - 1).isLast) {
                    sum += values[3];
                    if (k % values[1] == values[1] - 1) {
                        sum += values[4];
                    }
                }
            }
            return sum;
        }

        /** Each bit tells whether behind a block a column ends. */
        List<List<Block>> cut(List<Block> all, int bits) {
            List<List<Block>> setting = new ArrayList<>();
            setting.add(new ArrayList<>());
            for (int k = 0; k < all.size(); k++) {
                List<Block> column = setting.get(setting.size() - 1);
                column.add(all.get(k));
                if (lines(column) > values[0]) {
                    return null;
                }
                if (k < all.size() - 1 && (bits >> k & 1) != 0) {
                    if (!all.get(k).mayBreak) {
                        return null;
                    }
                    setting.add(new ArrayList<>());
                }
            }
            return setting;
        }

        boolean isBetter(List<List<Block>> a, List<List<Block>> b) {
            if (costOf(a) != costOf(b)) {
                return costOf(a) < costOf(b);
            }
            if (a.size() != b.size()) {
                return a.size() < b.size();
            }
            for (int k = 0; k < a.size(); k++) {
                if (a.get(k).size() != b.get(k).size()) {
                    return a.get(k).size() > b.get(k).size();
                }
            }
            return false;
        }

        List<List<Block>> bestOfEvery(List<Block> all) {
            List<List<Block>> best = null;
            for (int bits = 0; !all.isEmpty() && bits < 1 << (all.size() - 1); bits++) {
                List<List<Block>> setting = cut(all, bits);
                if (setting != null && (best == null || isBetter(setting, best))) {
                    best = setting;
                }
            }
            return best;
        }

        Part bestPart(List<Block> all, int first, int place, Part[][] found) {
            int next = (place + 1) % values[1];
            Part best = null;
            int lines = 0;
            for (int last = first; last < all.size(); last++) {
                Block block = all.get(last);
                lines += block.lines;
                boolean isEnd = last == all.size() - 1;
                if (lines > values[0] || !isEnd && (!block.mayBreak || found[last + 1][next] == null)) {
                    continue;
                }
                Part part = new Part();
                part.blocks = last - first + 1;
                part.columns = 1;
                if (!isEnd) {
                    part.behind = found[last + 1][next];
                    part.columns += part.behind.columns;
                    part.cost = part.behind.cost + (values[0] - lines) * (values[0] - lines);
                    part.cost += block.isLast ? 0 : values[3];
                    part.cost += !block.isLast && place == values[1] - 1 ? values[4] : 0;
                }
                best = part.isBetterThan(best) ? part : best;
            }
            return best;
        }

        List<List<Block>> bestByParts(List<Block> all) {
            Part[][] found = new Part[all.size() + 1][values[1]];
            for (int first = all.size() - 1; first >= 0; first--) {
                for (int place = 0; place < values[1]; place++) {
                    found[first][place] = bestPart(all, first, place, found);
                }
            }
            if (found[0][0] == null) {
                return null;
            }
            List<List<Block>> setting = new ArrayList<>();
            int first = 0;
            for (Part part = found[0][0]; part != null; part = part.behind) {
                setting.add(all.subList(first, first + part.blocks));
                first += part.blocks;
            }
            return setting;
        }

        int set() {
            List<Block> all = blocks();
            List<List<Block>> best = bestByParts(all);
            if (all.size() <= FEW && !Objects.equals(best, bestOfEvery(all))) {
                throw new AssertionError("the model finds two best settings");
            }
            if (best == null) {
                return -1;
            }
            List<String> before = pages();
            standing = best;
            columnsOnPage = values[1];
            cost = costOf(best);
            List<String> now = pages();
            changed = 0;
            for (int k = 0; k < Math.max(before.size(), now.size()); k++) {
                if (k >= before.size() || k >= now.size() || !before.get(k).equals(now.get(k))) {
                    changed++;
                }
            }
            return cost;
        }

        List<String> pages() {
            List<String> texts = new ArrayList<>();
            for (int k = 0; k < standing.size(); k += columnsOnPage) {
                StringBuilder text = new StringBuilder();
                for (int c = k; c < Math.min(k + columnsOnPage, standing.size()); c++) {
                    text.append('|');
                    for (Block block : standing.get(c)) {
                        text.append(block.entry).append('.').append(block.sense).append(' ');
                    }
                }
                texts.add(text.toString());
            }
            return texts;
        }

        int told(int what) {
            int blocks = 0;
            for (List<Block> column : standing) {
                blocks += column.size();
            }
            int[] all = {cost, pages().size(), standing.size(), blocks, changed};
            return what < 0 || what > 4 ? ARGUMENT : all[what];
        }

        int column(int k, int what) {
            if (k < 0 || k >= standing.size()) {
                return INDEX;
            }
            List<Block> column = standing.get(k);
            int[] all = {column.get(0).entry, column.get(0).sense, column.size(), lines(column)};
            return what < 0 || what > 3 ? ARGUMENT : all[what];
        }

        int where(int entry, int sense) {
            if (isNone(entry)) {
                return INDEX;
            }
            for (int k = 0; k < standing.size(); k++) {
                for (Block block : standing.get(k)) {
                    if (block.entry == entry && block.sense == sense) {
                        return k;
                    }
                }
            }
            return -1;
        }

        int guide(int page, int which) {
            if (page < 0 || page >= pages().size()) {
                return INDEX;
            }
            if (which < 0 || which > 1) {
                return ARGUMENT;
            }
            List<Integer> begun = new ArrayList<>();
            int from = page * columnsOnPage;
            for (int k = from; k < Math.min(from + columnsOnPage, standing.size()); k++) {
                for (Block block : standing.get(k)) {
                    if (block.sense == 0) {
                        begun.add(block.entry);
                    }
                }
            }
            if (begun.isEmpty()) {
                return standing.get(from).get(0).entry;
            }
            return begun.get(which == 0 ? 0 : begun.size() - 1);
        }

        int[] linesOfLetters() {
            int[] sums = new int[26];
            for (Block block : blocks()) {
                sums[entries.get(block.entry).head.charAt(0) - 'a'] += block.lines;
            }
            return sums;
        }

        static int sum(int[] row, int from, int end) {
            int sum = 0;
            for (int k = from; k < end; k++) {
                sum += row[k];
            }
            return sum;
        }

        int thumb(int letter, int length) {
            if (letter < 0 || letter > 25 || length < 1 || length > 10000) {
                return ARGUMENT;
            }
            int[] sums = linesOfLetters();
            if (sums[letter] == 0) {
                return -1;
            }
            return (int) (length * (sum(sums, 0, letter) * 2L + sums[letter]) / (2L * sum(sums, 0, 26)));
        }

        int volume() {
            int[] sums = linesOfLetters();
            int best = -1;
            int least = Integer.MAX_VALUE;
            for (int k = 0; k < 26; k++) {
                int unlike = Math.abs(sum(sums, 0, k) - sum(sums, k, 26));
                if (sums[k] > 0 && sum(sums, 0, k) > 0 && unlike < least) {
                    best = k;
                    least = unlike;
                }
            }
            return best;
        }

        int count(int what) {
            int[] all = {ordered().size(), entries.size(), pushed.size(), tape.length()};
            return what < 0 || what > 3 ? -1 : all[what];
        }
    }

    private static int wrong = 0;
    private static final StringBuilder LOG = new StringBuilder();

    private static void same(String call, int want, IntSupplier real) {
        int got = Answer.of(real);
        LOG.append(call).append(" = ").append(want).append('\n');
        if (got != want) {
            wrong++;
            if (wrong == 1) {
                System.out.println(LOG);
            }
            System.out.println(call + " answered " + got + ", due is " + want);
        }
    }

    private final Random chance;
    private final GuideWords real = new GuideWords();
    private final Model model = new Model();
    private final int letters;
    private final int mostLines;
    private final int heights;
    private final int mostBlocks;

    private TrialTest(long seed, int mostLetters, int mostLines, int heights, int mostBlocks) {
        chance = new Random(seed);
        letters = 1 + chance.nextInt(mostLetters);
        this.mostLines = mostLines;
        this.heights = heights;
        this.mostBlocks = mostBlocks;
    }

    /** Of so few blocks that all their settings are tried. */
    private static TrialTest small(long seed) {
        return new TrialTest(seed, 5, 20, 14, Model.FEW);
    }

    /** Of any number of blocks; where all are low, they can be set in low columns too. */
    private static TrialTest large(int seed) {
        return new TrialTest(seed, 26, 1 + seed % 20, 57, Integer.MAX_VALUE);
    }

    private int below(int bound) {
        return chance.nextInt(bound);
    }

    /** Mostly from 0 to under the bound; at times just outside or very far. */
    private int near(int bound) {
        int kind = below(24);
        if (kind == 0) {
            return new int[] {Integer.MIN_VALUE, Integer.MAX_VALUE, -1, bound, bound + 1}[below(5)];
        }
        return bound < 1 ? 0 : below(bound);
    }

    private String head() {
        int kind = below(20);
        int length = kind == 0 ? below(14) : 1 + below(3);
        StringBuilder text = new StringBuilder();
        for (int k = 0; k < length; k++) {
            text.append((char) ('a' + below(letters)));
        }
        if (below(30) == 0 && length > 0) {
            text.setCharAt(below(length), "`{A\u00e9 z"
                .charAt(below(6)));
        }
        return text.toString();
    }

    private void feed(String text) {
        int[] n = new int[5];
        for (int k = 0; k < Math.min(20, text.length()); k++) {
            n[k / 4] |= (text.charAt(k) & 255) << (24 - 8 * (k % 4));
        }
        same("feed " + text, model.feed(n), () -> real.feed(n[0], n[1], n[2], n[3], n[4]));
    }

    private void pushSome() {
        int senses = below(4) == 0 ? below(8) : 1 + below(3);
        for (int k = 0; k < senses; k++) {
            int lines = below(3) == 0 ? near(mostLines + 1) : 1 + below(Math.min(mostLines, 4));
            same("push " + lines, model.push(lines), () -> real.push(lines));
        }
    }

    private void addEntry() {
        String head = head();
        feed(head);
        pushSome();
        int n = below(30) == 0 ? near(62) : head.length();
        same("entry " + n, model.entry(n), () -> real.entry(n));
    }

    private void addSee() {
        String head = head();
        String meant = head();
        feed(head + meant);
        int n = below(30) == 0 ? near(62) : head.length();
        int m = below(30) == 0 ? near(62) : meant.length();
        same("see " + n + " " + m, model.see(n, m), () -> real.see(n, m));
    }

    private void change() {
        int what = near(5);
        int v = what == 0 ? 4 + below(heights) : what == 1 ? 1 + below(4) : what == 2 ? near(4) : near(40);
        same("set " + what + " " + v, model.set(what, v), () -> real.set(what, v));
    }

    private void dropOne() {
        int entry = near(model.entries.size());
        same("drop " + entry, model.drop(entry), () -> real.drop(entry) ? 1 : 0);
    }

    private void setAndLook() {
        if (model.blocks().size() > mostBlocks) {
            return;
        }
        same("set", model.set(), () -> real.set());
        look();
    }

    private void look() {
        for (int k = -1; k < 6; k++) {
            int what = k;
            same("told " + k, model.told(k), () -> real.told(what));
            same("count " + k, model.count(k), () -> real.count(what));
        }
        for (int k = -1; k <= model.standing.size(); k++) {
            int column = k;
            for (int w = -1; w < 5; w++) {
                int what = w;
                same("column " + k + " " + w, model.column(k, w), () -> real.column(column, what));
                same("guide " + k + " " + w, model.guide(k, w), () -> real.guide(column, what));
            }
        }
        for (int e = -1; e <= model.entries.size(); e++) {
            int entry = e;
            same("order " + e, model.order(e), () -> real.order(entry));
            same("leads " + e, model.leads(e), () -> real.leads(entry));
            int sense = near(7);
            same("where " + e + " " + sense, model.where(e, sense), () -> real.where(entry, sense));
        }
        int length = below(2) == 0 ? near(10001) : 1 + below(100);
        for (int l = -1; l <= letters; l++) {
            int letter = l;
            same("thumb " + l + " " + length, model.thumb(l, length), () -> real.thumb(letter, length));
        }
        same("volume", model.volume(), () -> real.volume());
    }

    private void run(int entries, int steps) {
        LOG.setLength(0);
        for (int k = 0; k < entries; k++) {
            addEntry();
        }
        for (int k = 0; k < steps && wrong == 0; k++) {
            int kind = below(12);
            if (kind < 3) {
                addEntry();
            } else if (kind < 5) {
                addSee();
            } else if (kind < 7) {
                change();
            } else if (kind < 9) {
                dropOne();
            } else if (kind == 9) {
                feed(head());
            } else {
                setAndLook();
            }
        }
        look();
    }

    public static void main(String[] args) {
        int runs = args.length > 0 ? Integer.parseInt(args[0]) : 1500;
        for (int seed = 0; seed < runs && wrong == 0; seed++) {
            small(seed).run(0, 40);
        }
        // Long ones fill all 150 entries.
        for (int seed = 0; seed < 10 && wrong == 0; seed++) {
            small(-1 - seed).run(0, 700);
        }
        for (int seed = 0; seed < runs / 25 && wrong == 0; seed++) {
            large(seed).run(seed % 130, 100);
        }
        System.out.println(wrong == 0 ? "all trials agree" : wrong + " answers are not as due");
        if (wrong != 0) {
            System.exit(1);
        }
    }
}
