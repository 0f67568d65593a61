import java.util.function.IntSupplier;

/** One method for each promise of the document, with answers worked out by hand. */
public final class PromisesTest {
    private static final int INDEX = Answer.INDEX;
    private static final int ARGUMENT = Answer.ARGUMENT;

    private static int wrong = 0;

    private static void due(String what, int want, IntSupplier call) {
        int got = call.getAsInt();
        if (got != want) {
            wrong++;
            System.out.println(what + " answered " + got + ", due is " + want);
        }
    }

    private static void promise1() {
        Book x = new Book();
        due("1 entries", 0, () -> x.count(0));
        due("1 all entries", 0, () -> x.count(1));
        due("1 pushed", 0, () -> x.count(2));
        due("1 bytes", 0, () -> x.count(3));
        due("1 order", -1, () -> x.order(0));
        for (int what = 0; what < 5; what++) {
            int w = what;
            due("1 told", 0, () -> x.told(w));
        }
        due("1 column", INDEX, () -> x.column(0, 0));
        due("1 guide", INDEX, () -> x.guide(0, 0));
        due("1 set", -1, x::set);
        due("1 set leaves nothing", 0, () -> x.told(3));
        due("1 volume", -1, x::volume);
        due("1 thumb", -1, () -> x.thumb(0, 1));
        due("1 NONE", -1, () -> GuideWords.NONE);
    }

    private static void promise2() {
        int[] first = {20, 2, 2, 10, 20};
        int[] low = {4, 1, 0, 0, 0};
        int[] high = {60, 4, 3, 1000, 1000};
        Book x = new Book();
        for (int what = 0; what < 5; what++) {
            int w = what;
            due("2 at first", first[w], () -> x.set(w, low[w]));
            due("2 too low", ARGUMENT, () -> x.set(w, low[w] - 1));
            due("2 too high", ARGUMENT, () -> x.set(w, high[w] + 1));
            due("2 low", low[w], () -> x.set(w, high[w]));
            due("2 high", high[w], () -> x.set(w, first[w]));
            due("2 least", ARGUMENT, () -> x.set(w, Integer.MIN_VALUE));
            due("2 most", ARGUMENT, () -> x.set(w, Integer.MAX_VALUE));
            due("2 unchanged by wrong ones", first[w], () -> x.set(w, first[w]));
        }
        due("2 no value -1", ARGUMENT, () -> x.set(-1, 10));
        due("2 no value 5", ARGUMENT, () -> x.set(5, 10));
        due("2 no value at all", ARGUMENT, () -> x.set(Integer.MIN_VALUE, 10));
    }

    private static void promise3() {
        Book x = new Book();
        due("3 none", ARGUMENT, () -> x.push(0));
        due("3 too many lines", ARGUMENT, () -> x.push(21));
        due("3 negative", ARGUMENT, () -> x.push(Integer.MIN_VALUE));
        for (int k = 1; k <= 6; k++) {
            int n = k;
            due("3 push", n, () -> x.push(n == 1 ? 1 : 20));
        }
        due("3 seventh", -1, () -> x.push(5));
        due("3 seventh, wrong", ARGUMENT, () -> x.push(21));
        due("3 six stay", 6, () -> x.count(2));
        x.feed("a");
        due("3 entry", 0, () -> x.entry(1));
        x.set(0, 60);
        x.set();
        // 1 line and 2 of the letter, then 20 and 20: the next would be over 60.
        due("3 lines kept", 43, () -> x.column(0, 3));
        due("3 blocks", 6, () -> x.told(3));
    }

    private static void promise4() {
        Book x = new Book();
        due("4 first", 20, () -> x.feed("abcdefghijklmnopqrst"));
        due("4 second", 40, () -> x.feed(""));
        due("4 third", 60, () -> x.feed(""));
        due("4 fourth", -1, () -> x.feed("a"));
        due("4 stays", 60, () -> x.count(3));
        due("4 head", 0, () -> x.see(10, 10));
        due("4 empty", 0, () -> x.count(3));
        due("4 the highest byte first", 20, () -> x.feed(0x61626364, 0x65666768, 0x696a6b6c, 0, 0));
        x.push(1);
        due("4 entry", 1, () -> x.entry(12));
        due("4 means that head", 2, () -> x.see("z", "abcdefghijkl"));
        due("4 leads", 1, () -> x.leads(2));
        due("4 bytes over 127", 20, () -> x.feed(0xFFFFFFFF, 0x80808080, 0, 0, 0));
        x.push(1);
        due("4 are no letters", -1, () -> x.entry(1));
    }

    private static void promise5() {
        Book x = new Book();
        due("5 no bytes", -1, () -> x.entry(0));
        due("5 negative", ARGUMENT, () -> x.entry(-1));
        due("5 more than there are", ARGUMENT, () -> x.entry(1));
        for (String bad : new String[] {"a`", "a{", "A", "a b", "1", "abcdefghijklm"}) {
            x.push(3);
            x.feed(bad);
            due("5 no head " + bad, -1, () -> x.entry(bad.length()));
            due("5 pushed are gone", 0, () -> x.count(2));
            due("5 bytes are gone", 0, () -> x.count(3));
        }
        x.feed("abc");
        x.push(3);
        due("5 over the tape", ARGUMENT, () -> x.entry(21));
        due("5 bytes stay when thrown", 20, () -> x.count(3));
        due("5 pushed stay when thrown", 1, () -> x.count(2));
        due("5 no bytes of some", -1, () -> x.entry(0));
        due("5 empty then", 0, () -> x.count(3) + x.count(2));
        x.feed("abc");
        due("5 no senses", -2, () -> x.entry(3));
        due("5 bytes are gone then too", 0, () -> x.count(3));
        x.feed("a1");
        due("5 neither", -1, () -> x.entry(2));
        due("5 first", 0, () -> x.entry("az", 1));
        due("5 second", 1, () -> x.entry("abcdefghijkl", 1, 2, 3, 4, 5, 6));
        due("5 there are two", 2, () -> x.count(1));
        x.fill(150);
        due("5 no room", -3, () -> x.entry("zz", 2));
        due("5 no room empties", 0, () -> x.count(2) + x.count(3));
        due("5 no head ahead of no room", -1, () -> x.entry("Z", 2));
        due("5 no senses ahead of no room", -2, () -> x.entry("z"));
        x.drop(7);
        due("5 a dropped one makes no room", -3, () -> x.entry("zz", 2));
        due("5 in all", 150, () -> x.count(1));
        due("5 there", 149, () -> x.count(0));
    }

    private static void promise6() {
        Book x = new Book();
        due("6 empty", -1, () -> x.see(0, 0));
        due("6 more than there are", ARGUMENT, () -> x.see(1, 0));
        x.feed("abcdefghij");
        due("6 negative n", ARGUMENT, () -> x.see(-1, 2));
        due("6 negative m", ARGUMENT, () -> x.see(2, -1));
        due("6 both", ARGUMENT, () -> x.see(11, 10));
        due("6 wrapped around", ARGUMENT, () -> x.see(Integer.MAX_VALUE, Integer.MAX_VALUE));
        due("6 wrapped around too", ARGUMENT, () -> x.see(Integer.MAX_VALUE, 1));
        due("6 bytes stay when thrown", 20, () -> x.count(3));
        x.push(4);
        due("6 the meant one is no head", -1, () -> x.see(5, 6));
        due("6 bytes are gone", 0, () -> x.count(3));
        due("6 pushed stay", 1, () -> x.count(2));
        x.feed("ab");
        due("6 nothing meant", -1, () -> x.see(2, 0));
        x.feed("ab");
        due("6 no head", -1, () -> x.see(0, 2));
        due("6 see", 0, () -> x.see("ab", "cd"));
        due("6 pushed stay, too", 1, () -> x.count(2));
        x.feed("cd");
        due("6 entry", 1, () -> x.entry(2));
        due("6 leads", 1, () -> x.leads(0));
        x.set();
        due("6 blocks", 2, () -> x.told(3));
        due("6 a line and those of letters", 9, () -> x.column(0, 3));
        x.fill(150);
        due("6 no room", -3, () -> x.see("a", "b"));
        due("6 no room empties", 0, () -> x.count(3));
        due("6 no head ahead of no room", -1, () -> x.see("a", "B"));
    }

    private static void promise7() {
        Book x = new Book();
        due("7 none", INDEX, () -> x.drop(0));
        x.entry("a", 1);
        x.entry("b", 1);
        due("7 drop", 1, () -> x.drop(0));
        due("7 again", 0, () -> x.drop(0));
        due("7 negative", INDEX, () -> x.drop(-1));
        due("7 behind", INDEX, () -> x.drop(2));
        due("7 there", 1, () -> x.count(0));
        due("7 its number is not given again", 2, () -> x.entry("a", 1));
        due("7 order", 2, () -> x.order(0));
    }

    private static void promise8() {
        Book x = new Book();
        String[] heads = {"b", "ab", "a", "abc", "b", "aa", "a", "zzzzzzzzzzzz", "z", "ba"};
        for (String head : heads) {
            x.entry(head, 1);
        }
        x.see("ab", "q");
        int[] ordered = {2, 6, 5, 1, 10, 3, 0, 4, 9, 8, 7};
        for (int k = 0; k < ordered.length; k++) {
            int n = k;
            due("8 order " + n, ordered[n], () -> x.order(n));
        }
        due("8 behind", -1, () -> x.order(11));
        due("8 ahead", -1, () -> x.order(-1));
        due("8 far", -1, () -> x.order(Integer.MAX_VALUE));
        x.drop(1);
        due("8 without the dropped one", 10, () -> x.order(3));
        due("8 one fewer", -1, () -> x.order(10));
    }

    private static void promise9() {
        Book x = new Book();
        due("9 none", INDEX, () -> x.leads(0));
        x.see("a", "b");
        due("9 no such head", -1, () -> x.leads(0));
        x.see("b", "a");
        due("9 ring", -2, () -> x.leads(0));
        x.see("c", "c");
        due("9 ring of one", -2, () -> x.leads(2));
        x.see("d", "a");
        due("9 into a ring", -2, () -> x.leads(3));
        x.entry("b", 1);
        due("9 the first of alike heads", -2, () -> x.leads(0));
        x.drop(1);
        due("9 now the other one", 4, () -> x.leads(0));
        due("9 of a dropped one", 4, () -> x.leads(1));
        due("9 of an entry", 4, () -> x.leads(4));
        x.drop(4);
        due("9 of a dropped entry", 4, () -> x.leads(4));
        due("9 to a dropped one", -1, () -> x.leads(3));
        due("9 negative", INDEX, () -> x.leads(-1));
        due("9 behind", INDEX, () -> x.leads(5));
        x.see("bx", "a");
        due("9 a head that begins another one", -1, () -> x.leads(0));
        Book y = new Book();
        for (int k = 0; k < 149; k++) {
            y.see(Book.name(k), Book.name(k + 1));
        }
        due("9 a long way to nowhere", -1, () -> y.leads(0));
        y.see(Book.name(149), Book.name(0));
        due("9 a long ring", -2, () -> y.leads(77));
        Book z = new Book();
        for (int k = 0; k < 149; k++) {
            z.see(Book.name(k), Book.name(k + 1));
        }
        z.entry(Book.name(149), 3);
        due("9 a long way", 149, () -> z.leads(0));
    }

    private static void promise10() {
        Book x = new Book();
        x.set(2, 0);
        x.set(0, 4);
        x.entry("a", 1, 4);
        due("10 the head may not stand alone", -1, x::set);
        x.entry("b", 2, 4);
        x.drop(0);
        due("10 two lines may: 2 * 2 and split", 14, x::set);
        x.set(1, 1);
        due("10 and turn", 34, x::set);
        x.set(3, 0);
        x.set(4, 0);
        due("10 both for nothing", 4, x::set);
        x.set(2, 3);
        due("10 too high with its letter", -1, x::set);
        due("10 what was set stays", 4, () -> x.told(0));
        x.set(2, 2);
        due("10 just high enough with its letter", 0, x::set);
        x.drop(1);
        due("10 without blocks", -1, x::set);
        due("10 what was set stays so", 2, () -> x.told(3));

        Book y = new Book();
        y.set(2, 3);
        y.set(0, 4);
        y.entry("a", 1, 2);
        due("10 letter's lines don't count for a break", -1, y::set);

        Book z = new Book();
        z.set(2, 0);
        z.set(0, 4);
        z.entry("a", 2, 1, 4);
        due("10 a sense that is not the first may have one line", 11, z::set);
        due("10 most blocks in the first column", 2, () -> z.column(0, 2));
    }

    /** The same cost: fewest columns, then the most blocks ahead. */
    private static void promise10ofEquals() {
        Book x = new Book();
        x.set(2, 0);
        x.set(0, 4);
        x.set(1, 4);
        x.entry("a", 3);
        x.entry("b", 1);
        x.entry("c", 3);
        x.entry("d", 4);
        due("10 a b, c: or a, b c", 1, x::set);
        due("10 columns", 3, () -> x.told(2));
        due("10 the first one has more", 2, () -> x.column(0, 2));

        Book y = new Book();
        y.set(2, 0);
        y.set(0, 4);
        y.entry("a", 4);
        y.entry("b", 2);
        y.entry("c", 2);
        due("10 fewest columns", 0, y::set);
        due("10 two of them", 2, () -> y.told(2));

        Book z = new Book();
        z.set(2, 0);
        z.set(0, 6);
        for (int k = 0; k < 4; k++) {
            z.entry("" + (char) ('a' + k), 2);
        }
        // The last column costs nothing, so the first may be full.
        due("10 the last column is free", 0, z::set);
        due("10 the last has one block", 1, () -> z.column(1, 2));
    }

    private static void promise11() {
        Book x = new Book();
        due("11 no such", ARGUMENT, () -> x.told(5));
        due("11 negative", ARGUMENT, () -> x.told(-1));
        x.set(0, 4);
        x.set(2, 0);
        for (int k = 0; k < 5; k++) {
            x.entry("" + (char) ('b' + k), 4);
        }
        due("11 set", 0, x::set);
        due("11 pages", 3, () -> x.told(1));
        due("11 columns", 5, () -> x.told(2));
        due("11 blocks", 5, () -> x.told(3));
        due("11 all changed", 3, () -> x.told(4));
        x.set();
        due("11 none changed", 0, () -> x.told(4));
        x.entry("g", 4);
        due("11 not before it is set", 0, () -> x.told(4));
        x.set();
        due("11 the last page", 1, () -> x.told(4));
        x.entry("h", 4);
        x.set();
        due("11 a new page", 1, () -> x.told(4));
        x.drop(2);
        x.set();
        due("11 from the second page on", 3, () -> x.told(4));
        x.set(0, 60);
        x.set(3, 0);
        due("11 all in one column", 0, x::set);
        due("11 fewer pages", 3, () -> x.told(4));
        x.set(1, 1);
        x.set();
        due("11 alike with other columns on a page", 0, () -> x.told(4));
        x.set(2, 3);
        x.set();
        due("11 alike with other lines", 0, () -> x.told(4));
        x.drop(0);
        int alike = x.entry("b", 4);
        x.set();
        due("11 another entry with the same head", 1, () -> x.told(4));
        due("11 is there", alike, () -> x.column(0, 0));
        x.entry("i", 20);
        x.set(0, 19);
        due("11 no setting", -1, x::set);
        due("11 changed stays", 1, () -> x.told(4));
        due("11 no such when set", ARGUMENT, () -> x.told(5));
    }

    private static void promise12() {
        Book x = new Book();
        x.set(0, 6);
        x.entry("b", 4, 3, 3);
        x.entry("a", 4);
        // Column 1 is the last of its page, so the split costs a turn, too.
        due("12 set", 30, x::set);
        int[][] columns = {{1, 0, 1, 6}, {0, 0, 1, 6}, {0, 1, 2, 6}};
        for (int k = 0; k < 3; k++) {
            for (int what = 0; what < 4; what++) {
                int n = k;
                int w = what;
                due("12 column " + n + " " + w, columns[n][w], () -> x.column(n, w));
            }
        }
        due("12 behind", INDEX, () -> x.column(3, 0));
        due("12 negative", INDEX, () -> x.column(-1, 0));
        due("12 no such", ARGUMENT, () -> x.column(0, 4));
        due("12 no such below", ARGUMENT, () -> x.column(0, -1));
        due("12 neither", INDEX, () -> x.column(3, 4));
        x.set(2, 0);
        x.drop(1);
        due("12 stays as it was", 6, () -> x.column(0, 3));
        due("12 with the dropped entry", 1, () -> x.column(0, 0));
    }

    private static void promise13() {
        Book x = new Book();
        due("13 none", INDEX, () -> x.where(0, 0));
        x.entry("b", 4, 3, 3);
        due("13 nothing set", -1, () -> x.where(0, 0));
        x.set(0, 6);
        x.set();
        due("13 first", 0, () -> x.where(0, 0));
        due("13 second", 1, () -> x.where(0, 1));
        due("13 third", 1, () -> x.where(0, 2));
        due("13 fourth", -1, () -> x.where(0, 3));
        due("13 seventh", -1, () -> x.where(0, 6));
        due("13 negative", -1, () -> x.where(0, -1));
        due("13 far", -1, () -> x.where(0, Integer.MAX_VALUE));
        due("13 no entry", INDEX, () -> x.where(1, 0));
        due("13 negative entry", INDEX, () -> x.where(-1, 0));
        x.entry("a", 1);
        due("13 not yet", -1, () -> x.where(1, 0));
        due("13 not the next entry's sense", -1, () -> x.where(0, 6));
        x.drop(0);
        due("13 dropped, but set", 1, () -> x.where(0, 2));
        x.set();
        due("13 gone", -1, () -> x.where(0, 2));
        due("13 there", 0, () -> x.where(1, 0));
    }

    private static void promise14() {
        Book x = new Book();
        x.set(0, 4);
        x.set(1, 1);
        x.set(2, 0);
        x.set(3, 0);
        x.set(4, 0);
        x.entry("a", 2, 2, 4, 2);
        x.entry("b", 1);
        x.entry("c", 1);
        due("14 set", 0, x::set);
        due("14 pages", 3, () -> x.told(1));
        due("14 first of page 0", 0, () -> x.guide(0, 0));
        due("14 last of page 0", 0, () -> x.guide(0, 1));
        due("14 without a first block", 0, () -> x.guide(1, 0));
        due("14 likewise the last", 0, () -> x.guide(1, 1));
        due("14 not the one that goes on", 1, () -> x.guide(2, 0));
        due("14 last of page 2", 2, () -> x.guide(2, 1));
        due("14 no page", INDEX, () -> x.guide(3, 0));
        due("14 negative", INDEX, () -> x.guide(-1, 0));
        due("14 no such", ARGUMENT, () -> x.guide(0, 2));
        due("14 no such below", ARGUMENT, () -> x.guide(0, -1));
        due("14 neither", INDEX, () -> x.guide(3, 2));
        x.set(1, 4);
        due("14 pages stay as they were", 1, () -> x.guide(2, 0));
        x.set();
        due("14 one page", 2, () -> x.guide(0, 1));
        due("14 no other one", INDEX, () -> x.guide(1, 0));
    }

    private static void promise15() {
        Book x = new Book();
        due("15 below", ARGUMENT, () -> x.thumb(-1, 10));
        due("15 above", ARGUMENT, () -> x.thumb(26, 10));
        due("15 no length", ARGUMENT, () -> x.thumb(0, 0));
        due("15 too long", ARGUMENT, () -> x.thumb(0, 10001));
        due("15 none", -1, () -> x.thumb(0, 10000));
        x.entry("z", 3);
        x.entry("b", 1, 2);
        x.see("by", "z");
        // b: 2 + 1 + 2 + 1 = 6; z: 2 + 3 = 5
        due("15 b", 2727, () -> x.thumb(1, 10000));
        due("15 z: the half is not cut", 7727, () -> x.thumb(25, 10000));
        due("15 no a", -1, () -> x.thumb(0, 10000));
        due("15 short", 0, () -> x.thumb(25, 1));
        x.set(2, 0);
        // b: 4, z: 3
        due("15 without letters", 2857, () -> x.thumb(1, 10000));
        x.drop(1);
        x.drop(2);
        due("15 alone", 5000, () -> x.thumb(25, 10000));
        due("15 dropped", -1, () -> x.thumb(1, 10000));
    }

    private static void promise16() {
        Book x = new Book();
        x.set(2, 0);
        x.entry("c", 4);
        due("16 one letter", -1, x::volume);
        x.entry("x", 20);
        due("16 the first one is none", 23, x::volume);
        x.entry("d", 8);
        x.entry("e", 8);
        // ahead of d 4 of 40, of e 12, of x 20
        due("16 in half", 23, x::volume);
        x.entry("y", 8);
        // of 48: e 12 against 36, x 20 against 28, y 40 against 8
        due("16 nearest", 23, x::volume);
        x.entry("z", 8);
        x.entry("z", 4);
        // of 60: x 20 against 40, y 40 against 20
        due("16 of equals the first", 23, x::volume);
        x.drop(1);
        // of 40: e 12 against 28, y 20 against 20
        due("16 dropped", 24, x::volume);
        Book y = new Book();
        y.set(2, 0);
        y.entry("a", 7);
        y.entry("b", 1);
        y.entry("c", 1);
        y.entry("d", 5);
        due("16 of 14: b 7 against 7", 1, y::volume);
        y.set(2, 3);
        due("16 of 26: b 10 against 16, c 14 against 12", 2, y::volume);
    }

    private static void promise17() {
        Book x = new Book();
        x.entry("a", 1);
        x.see("b", "a");
        x.entry("c", 1);
        x.drop(1);
        x.push(1);
        x.push(1);
        x.feed("");
        due("17 there", 2, () -> x.count(0));
        due("17 in all", 3, () -> x.count(1));
        due("17 pushed", 2, () -> x.count(2));
        due("17 bytes", 20, () -> x.count(3));
        due("17 other", -1, () -> x.count(4));
        due("17 negative", -1, () -> x.count(-1));
    }

    public static void main(String[] args) {
        promise1();
        promise2();
        promise3();
        promise4();
        promise5();
        promise6();
        promise7();
        promise8();
        promise9();
        promise10();
        promise10ofEquals();
        promise11();
        promise12();
        promise13();
        promise14();
        promise15();
        promise16();
        promise17();
        System.out.println(wrong == 0 ? "all promises hold" : wrong + " answers are not as due");
        if (wrong != 0) {
            System.exit(1);
        }
    }
}
