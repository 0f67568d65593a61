/** Promise 16, volume: "the LETTER with which the second one begins; NONE: there are fewer than two". */
public final class Promise16Test extends Checks {
    /** One entry a letter, from a on, of so many lines. */
    private static Book with(int... lines) {
        Book b = Book.of(20, 2, 0, 10, 20);
        for (int k = 0; k < lines.length; k++) {
            b.entry("" + (char) ('a' + k), lines[k]);
        }
        return b;
    }

    static void withoutLettersThereIsNone() {
        due(NONE, new Book().volume());
    }

    static void withOneLetterThereIsNone() {
        Book b = with(20);
        due(NONE, b.volume());
        b.entry("az", 20);
        due(NONE, b.volume());
    }

    static void ofTwoLettersItIsTheSecond() {
        due(1, with(20, 1).volume());
        due(1, with(1, 20).volume());
    }

    static void ofTwoLettersFarApartItIsTheSecond() {
        Book b = new Book();
        b.see("z", "a");
        b.see("a", "z");
        due(25, b.volume());
    }

    static void theFirstThatThereIsNeedNotBeA() {
        Book b = new Book();
        b.entry("y", 20);
        b.entry("z", 1);
        due(25, b.volume());
    }

    static void theFirstLetterIsNotTaken() {
        due(1, with(20, 1, 1).volume());
    }

    static void theLastLetterMayBeTaken() {
        due(2, with(1, 1, 20).volume());
    }

    static void halvesThatAreJustAlike() {
        due(2, with(5, 5, 10).volume());
        due(1, with(10, 5, 5).volume());
    }

    static void ofEqualsTheFirst() {
        due(1, with(2, 2, 2).volume());
        // Ahead of c 4 of 10, ahead of d 6.
        due(2, with(2, 2, 2, 2, 2).volume());
    }

    static void aLineMoreOrLessDecides() {
        // c: 9 and 10, d: 10 and 9, then 9 and 11 against 10 and 10.
        due(2, with(8, 1, 1, 9).volume());
        due(3, with(8, 1, 1, 10).volume());
    }

    static void linesOfLetterAreCounted() {
        Book b = with(7, 1, 1, 5);
        due(1, b.volume());
        b.set(LETTER, 3);
        // b: 10 and 16, c: 14 and 12.
        due(2, b.volume());
    }

    static void lettersThatNoneHasArePassedOver() {
        Book b = Book.of(20, 2, 0, 10, 20);
        b.entry("b", 10);
        b.entry("m", 5);
        b.entry("x", 5);
        due('m' - 'a', b.volume());
    }

    static void ofTheEntriesThatAreThere() {
        Book b = with(10, 5, 20);
        due(2, b.volume());
        b.drop(2);
        due(1, b.volume());
        b.drop(0);
        due(NONE, b.volume());
        b.drop(1);
        due(NONE, b.volume());
    }

    static void itIsNotOfWhatIsSet() {
        Book b = with(10, 5);
        b.set();
        b.entry("c", 20);
        due(2, b.volume());
    }

    public static void main(String[] args) {
        run(Promise16Test.class);
    }
}
