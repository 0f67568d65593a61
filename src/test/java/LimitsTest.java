import java.util.Random;

/**
 * The fullest dictionary there can be, far beyond 512 calls, and arguments of all sizes: nothing
 * but what the document names is thrown, and each setting adds up.
 */
public final class LimitsTest {
    private static int wrong = 0;

    private static void check(boolean isRight, String what) {
        if (!isRight) {
            wrong++;
            System.out.println(what);
        }
    }

    private static GuideWords full(Random chance, int mostLines) {
        GuideWords x = new GuideWords();
        for (int k = 0; k < 150; k++) {
            x.feed(('a' + chance.nextInt(26)) << 24 | ('a' + chance.nextInt(26)) << 16, 0, 0, 0, 0);
            for (int s = 0; s < 6; s++) {
                x.push(1 + chance.nextInt(mostLines));
            }
            check(x.entry(1 + chance.nextInt(2)) == k, "entry " + k);
        }
        return x;
    }

    private static void addsUp(GuideWords x, int height, int columnsOnPage, int split, int turn) {
        int cost = x.set();
        if (cost == GuideWords.NONE) {
            return;
        }
        int columns = x.told(2);
        int blocks = 0;
        int sum = 0;
        for (int k = 0; k < columns; k++) {
            int lines = x.column(k, 3);
            check(lines <= height, "column " + k + " is too high");
            check(x.where(x.column(k, 0), x.column(k, 1)) == k, "column " + k + " is elsewhere");
            blocks += x.column(k, 2);
            if (k < columns - 1) {
                sum += (height - lines) * (height - lines);
                boolean isSplit = x.column(k + 1, 1) != 0;
                sum += isSplit ? split : 0;
                sum += isSplit && k % columnsOnPage == columnsOnPage - 1 ? turn : 0;
            }
        }
        check(blocks == 900 && x.told(3) == 900, "there are 900 blocks, not " + blocks);
        check(sum == cost && x.told(0) == cost, "cost is " + cost + ", adds up to " + sum);
        check(x.told(1) == (columns + columnsOnPage - 1) / columnsOnPage, "pages");
        for (int page = 0; page < x.told(1); page++) {
            check(x.guide(page, 0) >= 0 && x.guide(page, 1) >= 0, "guides of page " + page);
        }
    }

    private static void settings() {
        int set = 0;
        for (int mostLines = 1; mostLines <= 20; mostLines += 6) {
            GuideWords x = full(new Random(mostLines), mostLines);
            for (int height = 4; height <= 60; height += 4) {
                for (int columns = 1; columns <= 4; columns++) {
                    int split = height * 250 % 1001;
                    x.set(0, height);
                    x.set(1, columns);
                    x.set(3, split);
                    x.set(4, 1000);
                    addsUp(x, height, columns, split, 1000);
                    set += x.told(2) > 0 ? 1 : 0;
                }
            }
        }
        check(set > 0, "nothing was set");
    }

    private static int any(Random chance) {
        switch (chance.nextInt(6)) {
            case 0:
                return chance.nextInt();
            case 1:
                return chance.nextInt(2) == 0 ? Integer.MIN_VALUE : Integer.MAX_VALUE;
            case 2:
                return chance.nextInt(1002) - 1;
            default:
                return chance.nextInt(8) - 1;
        }
    }

    private static int letters(Random chance) {
        return chance.nextInt(4) == 0 ? chance.nextInt() : 0x61616161 + chance.nextInt(3) * 0x01000001;
    }

    private static void anyCall(GuideWords x, Random c) {
        switch (c.nextInt(17)) {
            case 0: x.set(any(c), any(c)); break;
            case 1: case 2: x.push(any(c)); break;
            case 3: case 4: x.feed(letters(c), letters(c), letters(c), letters(c), letters(c)); break;
            case 5: x.entry(any(c)); break;
            case 6: x.see(any(c), any(c)); break;
            case 7: x.drop(any(c)); break;
            case 8: x.order(any(c)); break;
            case 9: x.leads(any(c)); break;
            case 10: x.set(); break;
            case 11: x.told(any(c)); break;
            case 12: x.column(any(c), any(c)); break;
            case 13: x.where(any(c), any(c)); break;
            case 14: x.guide(any(c), any(c)); break;
            case 15: x.thumb(any(c), any(c)); x.volume(); break;
            default: x.count(any(c)); break;
        }
    }

    private static void anyCalls() {
        for (int seed = 0; seed < 300; seed++) {
            Random chance = new Random(seed);
            GuideWords x = new GuideWords();
            for (int k = 0; k < 2000; k++) {
                try {
                    anyCall(x, chance);
                } catch (RuntimeException e) {
                    Class<?> kind = e.getClass();
                    check(kind == IllegalArgumentException.class || kind == IndexOutOfBoundsException.class,
                        "seed " + seed + " throws " + e);
                    check(e.getStackTrace()[0].getClassName().startsWith("GuideWords"),
                        "seed " + seed + ": thrown by the library: " + e);
                }
            }
        }
    }

    public static void main(String[] args) {
        settings();
        anyCalls();
        System.out.println(wrong == 0 ? "all limits hold" : wrong + " things are wrong");
        if (wrong != 0) {
            System.exit(1);
        }
    }
}
