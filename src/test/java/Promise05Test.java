/** Promise 5, entry: "The first n bytes of the TAPE are the HEAD, what was pushed are the SENSES". */
public final class Promise05Test extends Checks {
    private static Book withTapeAndSense(String tape) {
        Book b = new Book();
        b.feed(tape);
        b.push(3);
        return b;
    }

    private static void bothAreEmpty(Book b) {
        due(0, b.count(2));
        due(0, b.count(3));
    }

    private static void refused(Book b, int n) {
        String before = b.all();
        due(ARGUMENT, b.entry(n));
        due(before, b.all());
    }

    static void aHeadOfOneLetterIsTaken() {
        Book b = withTapeAndSense("a");
        due(0, b.entry(1));
        bothAreEmpty(b);
    }

    static void aHeadOfTwelveLettersIsTaken() {
        Book b = withTapeAndSense("abcdefghijklmnop");
        due(0, b.entry(12));
        due(1, b.see("b", "abcdefghijkl"));
        due(0, b.leads(1));
    }

    static void thirteenLettersAreNoHead() {
        Book b = withTapeAndSense("abcdefghijklm");
        due(-1, b.entry(13));
        bothAreEmpty(b);
        due(0, b.count(1));
    }

    static void noByteIsNoHead() {
        Book b = withTapeAndSense("abc");
        due(-1, b.entry(0));
        bothAreEmpty(b);
        due(0, b.count(1));
    }

    static void noByteOfAnEmptyTapeIsNoHead() {
        Book b = new Book();
        b.push(1);
        due(-1, b.entry(0));
        bothAreEmpty(b);
    }

    static void allBytesOfTheTapeAreNoHeadButNotRefused() {
        Book b = withTapeAndSense("abc");
        due(-1, b.entry(20));
        b.feed("aaaaaaaaaaaaaaaaaaaaaaaaaaaaaaaaaaaaaaaaaaaaaaaaaaaaaaaaaaaa");
        due(-1, b.entry(60));
        bothAreEmpty(b);
    }

    static void lettersAreAToZ() {
        Book b = new Book();
        due(0, b.entry("a", 1));
        due(1, b.entry("z", 1));
        due(2, b.entry("az", 1));
    }

    static void theSignAheadOfAIsNoLetter() {
        due(-1, new Book().entry("a`", 1));
        due(-1, new Book().entry("`", 1));
    }

    static void theSignBehindZIsNoLetter() {
        due(-1, new Book().entry("z{", 1));
        due(-1, new Book().entry("{", 1));
    }

    static void capitalsFiguresSpacesAndZerosAreNoLetters() {
        for (String text : new String[] {"A", "Z", "aB", "1", "a b", " a", "a-b", "a\0", "\0"}) {
            Book b = withTapeAndSense(text);
            due(-1, b.entry(text.length()));
            bothAreEmpty(b);
        }
    }

    static void theTwelfthByteIsLookedAtToo() {
        due(-1, new Book().entry("abcdefghijk!", 1));
        due(0, new Book().entry("abcdefghijkl", 1));
    }

    static void whatStandsBehindTheHeadIsNotLookedAt() {
        Book b = withTapeAndSense("ab!{A");
        due(0, b.entry(2));
        bothAreEmpty(b);
    }

    static void whatStandsBehindTheHeadIsGone() {
        Book b = withTapeAndSense("abcdef");
        b.entry(2);
        due(ARGUMENT, b.entry(1));
    }

    static void fewerThanNoBytesAreRefused() {
        Book b = withTapeAndSense("abc");
        refused(b, -1);
        refused(b, LEAST);
        due(0, b.entry(3));
    }

    static void moreThanTheTapesBytesAreRefused() {
        Book b = withTapeAndSense("abc");
        refused(b, 21);
        refused(b, MOST);
        b.feed("");
        refused(b, 41);
        b.feed("");
        refused(b, 61);
        due(0, b.entry(3));
    }

    static void anyByteOfAnEmptyTapeIsRefused() {
        Book b = new Book();
        b.push(1);
        refused(b, 1);
        refused(b, 20);
    }

    static void aRefusedCallKeepsTheSensesLines() {
        Book b = Book.of(60, 1, 0, 0, 0);
        b.feed("abc");
        b.push(7);
        b.push(8);
        due(ARGUMENT, b.entry(21));
        b.entry(3);
        b.set();
        due(15, b.column(0, 3));
    }

    static void withoutSensesItIsNone() {
        Book b = new Book();
        b.feed("abc");
        due(-2, b.entry(3));
        bothAreEmpty(b);
        due(0, b.count(1));
    }

    static void noHeadIsToldAheadOfNoSenses() {
        Book b = new Book();
        b.feed("a1");
        due(-1, b.entry(2));
        bothAreEmpty(b);
    }

    static void sixSensesAreTheMost() {
        Book b = Book.of(60, 1, 0, 0, 0);
        due(0, b.entry("a", 1, 1, 1, 1, 1, 1, 20));
        b.set();
        due(6, b.told(3));
        due(6, b.column(0, 3));
    }

    static void aHeadThatIsThereIsTakenAgain() {
        Book b = new Book();
        due(0, b.entry("a", 1));
        due(1, b.entry("a", 1));
    }

    static void whatIsNoneGetsNoNumber() {
        Book b = new Book();
        b.entry("A", 1);
        b.entry("a");
        due(0, b.entry("a", 1));
    }

    static void theHundredAndFiftiethIsTaken() {
        Book b = new Book();
        b.fill(149);
        due(149, b.entry("zz", 1));
        due(150, b.count(0));
        due(150, b.count(1));
    }

    static void whenThereWere150ThereIsNoRoom() {
        Book b = new Book();
        b.fill(150);
        due(-3, b.entry("zz", 1));
        bothAreEmpty(b);
        due(150, b.count(1));
        due(NONE, b.order(150));
    }

    static void aDroppedOneMakesNoRoom() {
        Book b = new Book();
        b.fill(150);
        b.drop(0);
        b.drop(149);
        due(-3, b.entry("zz", 1));
        due(148, b.count(0));
        due(150, b.count(1));
    }

    static void noHeadAndNoSensesAreToldAheadOfNoRoom() {
        Book b = new Book();
        b.fill(150);
        due(-1, b.entry("Z", 1));
        due(-2, b.entry("z"));
        bothAreEmpty(b);
    }

    static void aRefusedCallIsRefusedAlsoWithoutRoom() {
        Book b = new Book();
        b.fill(150);
        b.feed("a");
        b.push(1);
        due(ARGUMENT, b.entry(21));
        due(20, b.count(3));
        due(1, b.count(2));
    }

    public static void main(String[] args) {
        run(Promise05Test.class);
    }
}
