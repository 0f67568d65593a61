import java.util.Arrays;

/** The terms, part 1: entries, their heads and senses, and letters. */
public final class Terms1Test extends Checks {
    /** "ENTRIES, numbered from 0 on as they come" */
    static void numbersAreGivenAsTheyCome() {
        Book b = new Book();
        due(0, b.entry("z", 1));
        due(1, b.see("a", "b"));
        due(2, b.entry("m", 1));
    }

    /** "150 at most in all" */
    static void noMoreThan150InAll() {
        Book b = new Book();
        b.fill(149);
        due(149, b.entry("a", 1));
        due(-3, b.entry("a", 1));
        due(-3, b.see("a", "b"));
        due(150, b.count(0));
        due(150, b.count(1));
    }

    /** "one may be dropped (its number is not given again)" */
    static void aDroppedOneCountsAmongAll() {
        Book b = new Book();
        b.fill(149);
        b.drop(3);
        due(149, b.see("a", "b"));
        due(-3, b.see("a", "b"));
        due(149, b.count(0));
    }

    /** "a HEAD, 1 to 12 letters a to z" */
    static void aHeadHas1To12Letters() {
        for (int letters = 0; letters <= 14; letters++) {
            Book b = new Book();
            due(letters >= 1 && letters <= 12 ? 0 : -1, b.entry("abcdefghijklmn".substring(0, letters), 1));
        }
    }

    /** Of all bytes there are, just the 26 are letters. */
    static void aToZAreTheOnlyLetters() {
        for (int sign = 0; sign < 256; sign++) {
            boolean isLetter = sign >= 'a' && sign <= 'z';
            due(isLetter ? 0 : -1, new Book().entry("" + (char) sign, 1));
        }
    }

    /** "1 to 6 SENSES" */
    static void anEntryHas1To6Senses() {
        int[] lines = {};
        for (int senses = 0; senses <= 7; senses++) {
            Book b = Book.of(60, 1, 0, 0, 0);
            due(senses == 0 ? -2 : 0, b.entry("a", lines));
            b.set();
            due(Math.min(senses, 6), b.told(3));
            lines = Arrays.copyOf(lines, senses + 1);
            lines[senses] = 1;
        }
    }

    /** "of 1 to 20 LINES each" */
    static void aSenseHas1To20Lines() {
        for (int lines = 1; lines <= 20; lines++) {
            Book b = Book.of(60, 1, 0, 0, 0);
            due(0, b.entry("a", lines));
            b.set();
            due(lines, b.column(0, 3));
        }
    }

    /** "one that says SEE has one SENSE of one LINE" */
    static void aSeeHasOneSenseOfOneLine() {
        Book b = Book.of(60, 1, 0, 0, 0);
        b.push(20);
        b.push(20);
        b.see("a", "b");
        b.set();
        due(1, b.column(0, 2));
        due(1, b.column(0, 3));
    }

    /** "LETTERS are the first ones of HEADS." */
    static void lettersAreTheFirstOnes() {
        Book b = new Book();
        b.entry("az", 1);
        b.see("zab", "q");
        due(NONE, b.thumb(1, 10000));
        due(NONE, b.thumb('q' - 'a', 10000));
        due(2500, b.thumb(0, 10000));
        due(7500, b.thumb(25, 10000));
        due(25, b.volume());
    }

    static void lettersAreTheFirstOnesOfTheLongestHeadsToo() {
        Book b = Book.of(20, 2, 0, 10, 20);
        b.entry("abbbbbbbbbbb", 1);
        b.entry("bccccccccccc", 1);
        due(2500, b.thumb(0, 10000));
        due(7500, b.thumb(1, 10000));
        due(NONE, b.thumb(2, 10000));
        due(1, b.volume());
    }

    public static void main(String[] args) {
        run(Terms1Test.class);
    }
}
