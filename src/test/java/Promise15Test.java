/** Promise 15, thumb: "THUMB of a LETTER (0 to 25), of the ENTRIES that are there; NONE: none has it." */
public final class Promise15Test extends Checks {
    private static final int A = 0;
    private static final int B = 1;
    private static final int Z = 25;

    private static Book withOneLineOfAAndOfB() {
        Book b = Book.of(20, 2, 0, 10, 20);
        b.see("b", "a");
        b.see("a", "b");
        return b;
    }

    static void aLetterBelowZeroIsRefused() {
        Book b = withOneLineOfAAndOfB();
        due(ARGUMENT, b.thumb(-1, 10));
        due(ARGUMENT, b.thumb(LEAST, 10));
    }

    static void aLetterOver25IsRefused() {
        Book b = withOneLineOfAAndOfB();
        due(ARGUMENT, b.thumb(26, 10));
        due(ARGUMENT, b.thumb('a', 10));
        due(ARGUMENT, b.thumb(MOST, 10));
    }

    static void aLengthUnder1IsRefused() {
        Book b = withOneLineOfAAndOfB();
        due(ARGUMENT, b.thumb(A, 0));
        due(ARGUMENT, b.thumb(A, -1));
        due(ARGUMENT, b.thumb(A, LEAST));
    }

    static void aLengthOver10000IsRefused() {
        Book b = withOneLineOfAAndOfB();
        due(ARGUMENT, b.thumb(A, 10001));
        due(ARGUMENT, b.thumb(A, MOST));
    }

    static void wrongOnesAreRefusedAlsoIfNoneHasTheLetter() {
        Book b = new Book();
        due(ARGUMENT, b.thumb(A, 0));
        due(ARGUMENT, b.thumb(Z, 10001));
        due(ARGUMENT, b.thumb(26, 1));
        due(ARGUMENT, b.thumb(26, 0));
    }

    static void theShortestEdgeIsCutToNothing() {
        Book b = withOneLineOfAAndOfB();
        due(0, b.thumb(A, 1));
        due(0, b.thumb(B, 1));
    }

    static void theLongestEdge() {
        Book b = withOneLineOfAAndOfB();
        due(2500, b.thumb(A, 10000));
        due(7500, b.thumb(B, 10000));
    }

    static void whatIsNotWholeIsCut() {
        Book b = withOneLineOfAAndOfB();
        due(0, b.thumb(A, 3));
        due(1, b.thumb(A, 4));
        due(1, b.thumb(A, 7));
        due(2, b.thumb(B, 3));
        due(3, b.thumb(B, 4));
        due(5, b.thumb(B, 7));
    }

    static void halfALineIsNotCutByItself() {
        Book b = Book.of(20, 2, 0, 10, 20);
        b.entry("a", 3);
        b.entry("b", 5);
        due(1500, b.thumb(A, 8000));
        due(5500, b.thumb(B, 8000));
    }

    static void aLetterAloneIsInTheMiddle() {
        Book b = Book.of(20, 2, 0, 10, 20);
        b.see("z", "a");
        due(5000, b.thumb(Z, 10000));
        due(0, b.thumb(Z, 1));
        due(1, b.thumb(Z, 2));
        due(1, b.thumb(Z, 3));
    }

    static void aLetterThatNoneHas() {
        Book b = withOneLineOfAAndOfB();
        due(NONE, b.thumb(2, 10000));
        due(NONE, b.thumb(Z, 10000));
    }

    static void aLetterThatNoneHasAnyMore() {
        Book b = withOneLineOfAAndOfB();
        b.drop(1);
        due(NONE, b.thumb(A, 10000));
        due(5000, b.thumb(B, 10000));
        b.drop(0);
        due(NONE, b.thumb(B, 10000));
    }

    static void linesOfLetterAreCountedOnceForEachLetter() {
        Book b = Book.of(20, 2, 3, 10, 20);
        b.see("a", "b");
        b.see("aa", "b");
        b.entry("b", 20);
        // 5 lines and 23, and then 2 and 20.
        due(25, b.thumb(A, 280));
        due(165, b.thumb(B, 280));
        b.set(LETTER, 0);
        due(10, b.thumb(A, 220));
        due(120, b.thumb(B, 220));
    }

    static void itIsOfTheEntriesThereNotOfWhatIsSet() {
        Book b = withOneLineOfAAndOfB();
        b.set();
        b.entry("aa", 2);
        // 3 lines of a, one of b.
        due(3, b.thumb(A, 8));
        due(7, b.thumb(B, 8));
        b.drop(0);
        due(NONE, b.thumb(B, 8));
    }

    static void itNeedsNoSetting() {
        Book b = Book.of(4, 2, 0, 10, 20);
        b.entry("a", 20);
        due(NONE, b.set());
        due(5, b.thumb(A, 10));
    }

    static void all26Letters() {
        Book b = Book.of(20, 2, 3, 10, 20);
        for (int letter = 25; letter >= 0; letter--) {
            b.see("" + (char) ('a' + letter), "a");
        }
        for (int letter = 0; letter < 26; letter++) {
            due(2 * letter + 1, b.thumb(letter, 52));
        }
    }

    static void manyLinesOnTheLongestEdge() {
        Book b = Book.of(20, 2, 3, 10, 20);
        for (int k = 0; k < 60; k++) {
            b.entry(Book.name(k), 20, 20, 20, 20, 20, 20);
        }
        // 3123 lines of a and of b, 963 of c.
        due(2166, b.thumb(A, 10000));
        due(6498, b.thumb(B, 10000));
        due(9332, b.thumb(2, 10000));
    }

    public static void main(String[] args) {
        run(Promise15Test.class);
    }
}
