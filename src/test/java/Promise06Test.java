/** Promise 6, see: "The first n bytes are the HEAD, the m behind them the one that is meant". */
public final class Promise06Test extends Checks {
    private static final String LETTERS = "abcdefghijklmnopqrstuvwxyz";

    private static Book withTapeAndSense(String tape) {
        Book b = new Book();
        b.feed(tape);
        b.push(3);
        return b;
    }

    private static void onlyTheTapeIsEmpty(Book b) {
        due(0, b.count(3));
        due(1, b.count(2));
    }

    private static void isNone(String tape, int n, int m) {
        Book b = withTapeAndSense(tape);
        due(-1, b.see(n, m));
        onlyTheTapeIsEmpty(b);
        due(0, b.count(1));
    }

    private static void refused(String tape, int n, int m) {
        Book b = withTapeAndSense(tape);
        String before = b.all();
        due(ARGUMENT, b.see(n, m));
        due(before, b.all());
        // The bytes themselves stay, too.
        due(0, b.see(1, 1));
        due(1, b.entry("b", 1));
        due(1, b.leads(0));
    }

    static void headsOfOneLetterAreTaken() {
        Book b = withTapeAndSense("ab");
        due(0, b.see(1, 1));
        onlyTheTapeIsEmpty(b);
    }

    static void headsOfTwelveLettersAreTaken() {
        Book b = withTapeAndSense(LETTERS);
        due(0, b.see(12, 12));
        onlyTheTapeIsEmpty(b);
        b.entry("mnopqrstuvwx");
        due(1, b.leads(0));
    }

    static void aHeadOfNoLetterIsNone() {
        isNone(LETTERS, 0, 3);
    }

    static void aHeadOfThirteenLettersIsNone() {
        isNone(LETTERS, 13, 3);
    }

    static void meaningNoLetterIsNone() {
        isNone(LETTERS, 3, 0);
    }

    static void meaningThirteenLettersIsNone() {
        isNone(LETTERS, 3, 13);
    }

    static void neitherHasALetter() {
        isNone(LETTERS, 0, 0);
        isNone("", 0, 0);
        Book b = new Book();
        due(-1, b.see(0, 0));
    }

    static void theHeadHasASignThatIsNoLetter() {
        isNone("a`bc", 2, 2);
        isNone("a{bc", 2, 2);
        isNone("Abbc", 2, 2);
    }

    static void theOneThatIsMeantHasASignThatIsNoLetter() {
        isNone("abc`", 2, 2);
        isNone("abc{", 2, 2);
        isNone("abCc", 2, 2);
        isNone("ab", 2, 1);
    }

    static void theSignsBehindBothAreNotLookedAt() {
        Book b = withTapeAndSense("abcd{}!");
        due(0, b.see(2, 2));
        onlyTheTapeIsEmpty(b);
    }

    static void bothTogetherMayBeAllTheTapesBytes() {
        Book b = withTapeAndSense("abcdefghijklmnopqrst");
        due(0, b.see(10, 10));
        isNone("abc", 20, 0);
        isNone("abc", 0, 20);
        isNone(LETTERS, 20, 20);
    }

    static void bothTogetherAreMoreThanTheTapesBytes() {
        refused("abcdefghijklmnopqrst", 10, 11);
        refused("abcdefghijklmnopqrst", 11, 10);
        refused("abcdefghijklmnopqrst", 20, 1);
        refused("abcdefghijklmnopqrst", 1, 20);
    }

    static void oneIsMoreThanTheTapesBytes() {
        refused("ab", 21, 0);
        refused("ab", 0, 21);
        refused("ab", MOST, 0);
        refused("ab", 0, MOST);
    }

    static void oneIsBelowNone() {
        refused("ab", -1, 1);
        refused("ab", 1, -1);
        refused("ab", LEAST, 1);
        refused("ab", 1, LEAST);
    }

    static void oneBelowNoneIsNotMadeGoodByTheOther() {
        refused("ab", -1, 3);
        refused("ab", 3, -1);
        refused("ab", -2, 22);
        refused("ab", 22, -2);
    }

    static void bothTogetherWrapAround() {
        refused("ab", MOST, 1);
        refused("ab", 1, MOST);
        refused("ab", MOST, MOST);
        refused("ab", LEAST, LEAST);
        refused("ab", LEAST, MOST);
    }

    static void anyByteOfAnEmptyTapeIsRefused() {
        Book b = new Book();
        due(ARGUMENT, b.see(1, 0));
        due(ARGUMENT, b.see(0, 1));
        due(ARGUMENT, b.see(1, 1));
    }

    static void whatWasPushedStaysForTheNextEntry() {
        Book b = Book.of(60, 1, 0, 0, 0);
        b.push(7);
        b.push(8);
        due(0, b.see("b", "a"));
        due(1, b.entry("a"));
        b.set();
        due(16, b.column(0, 3));
    }

    static void nothingNeedBePushed() {
        due(0, new Book().see("a", "b"));
    }

    static void itHasOneSenseOfOneLine() {
        Book b = Book.of(60, 1, 0, 0, 0);
        b.see("a", "b");
        due(0, b.set());
        due(1, b.told(3));
        due(1, b.column(0, 3));
        due(0, b.where(0, 0));
        due(NONE, b.where(0, 1));
    }

    static void itMayMeanItsOwnHead() {
        due(0, new Book().see("a", "a"));
    }

    static void theHundredAndFiftiethIsTaken() {
        Book b = new Book();
        b.fill(149);
        due(149, b.see("a", "b"));
        due(150, b.count(1));
    }

    static void whenThereWere150ThereIsNoRoom() {
        Book b = new Book();
        b.fill(150);
        b.push(2);
        due(-3, b.see("a", "b"));
        onlyTheTapeIsEmpty(b);
        due(150, b.count(1));
    }

    static void aDroppedOneMakesNoRoom() {
        Book b = new Book();
        b.fill(150);
        b.drop(77);
        due(-3, b.see("a", "b"));
        due(149, b.count(0));
    }

    static void noHeadIsToldAheadOfNoRoom() {
        Book b = new Book();
        b.fill(150);
        due(-1, b.see("A", "b"));
        due(-1, b.see("a", "B"));
        due(0, b.count(3));
    }

    static void aRefusedCallIsRefusedAlsoWithoutRoom() {
        Book b = new Book();
        b.fill(150);
        b.feed("ab");
        due(ARGUMENT, b.see(20, 1));
        due(20, b.count(3));
    }

    public static void main(String[] args) {
        run(Promise06Test.class);
    }
}
