/** Promise 10, set: "SET: the COST; NONE: there is no SETTING (then what was SET stays)." */
public final class Promise10Test extends Checks {
    /** Four columns on two pages, with a split behind the first and the third. */
    private static Book standing() {
        Book b = Book.of(4, 2, 0, 10, 20);
        b.entry("a", 4, 4);
        b.entry("b", 4, 4);
        due(20, b.set());
        return b;
    }

    static void withoutBlocksThereIsNone() {
        Book b = new Book();
        due(NONE, b.set());
        b.push(3);
        b.feed("a");
        due(NONE, b.set());
    }

    static void whenAllAreDroppedThereIsNone() {
        Book b = standing();
        String before = b.setting();
        b.drop(0);
        b.drop(1);
        due(NONE, b.set());
        due(before, b.setting());
    }

    static void noneAtFirstLeavesNothingSet() {
        Book b = Book.of(4, 2, 0, 10, 20);
        b.entry("a", 5);
        due(NONE, b.set());
        due("told 0 0 0 0 0", b.setting());
        due(NONE, b.where(0, 0));
    }

    static void noneWhateverTheColumnsOnAPage() {
        for (int columns = 1; columns <= 4; columns++) {
            Book b = Book.of(4, columns, 0, 0, 0);
            b.entry("a", 4);
            b.entry("b", 5);
            due(NONE, b.set());
            due("told 0 0 0 0 0", b.setting());
        }
    }

    static void noneLaterLeavesWhatWasSet() {
        Book b = standing();
        String before = b.setting();
        b.entry("aa", 5);
        due(NONE, b.set());
        due(NONE, b.set());
        due(before, b.setting());
        due(1, b.where(0, 1));
        due(NONE, b.where(2, 0));
    }

    static void behindNoneThereMayBeOneAgain() {
        Book b = standing();
        b.entry("aa", 5);
        b.set();
        b.set(HEIGHT, 5);
        // A line left and a split, a line left, nothing, and a line left, a split and a turn.
        due(43, b.set());
        due(5, b.told(2));
        due(2, b.where(2, 0));
    }

    static void theCostIsToldAsItIsAnswered() {
        Book b = standing();
        due(20, b.told(0));
        due(20, b.set());
        due(20, b.told(0));
    }

    static void aCostOfNothingIsNotNone() {
        Book b = new Book();
        b.see("a", "b");
        due(0, b.set());
        due(1, b.told(2));
    }

    static void whatIsSetStaysWhateverBecomesOfTheEntries() {
        Book b = standing();
        String before = b.setting();
        b.drop(0);
        b.entry("aa", 4);
        b.see("ab", "a");
        b.set(HEIGHT, 60);
        b.set(COLUMNS, 1);
        b.set(LETTER, 3);
        due(before, b.setting());
        due(0, b.where(0, 0));
        due(NONE, b.where(2, 0));
    }

    static void thenThereIsAnother() {
        Book b = standing();
        b.drop(0);
        b.entry("c", 4);
        due(10, b.set());
        due("1 1 1", b.columns());
        due(1, b.column(0, 0));
        due(2, b.column(2, 0));
        due(NONE, b.where(0, 0));
    }

    static void aDroppedLastBlockIsNotSetAgain() {
        Book b = Book.of(4, 2, 0, 10, 20);
        b.entry("a", 2);
        b.entry("b", 2);
        b.set();
        b.drop(1);
        due(0, b.set());
        due("1", b.columns());
        due(2, b.column(0, 3));
    }

    static void all150AreSet() {
        Book b = Book.of(4, 4, 0, 10, 20);
        b.fill(150);
        due(0, b.set());
        due(150, b.told(3));
        due(38, b.told(2));
        due(10, b.told(1));
        due(2, b.column(37, 3));
        due(37, b.where(149, 0));
    }

    static void aColumnForEachOf360Blocks() {
        Book b = Book.of(4, 1, 0, 1000, 1000);
        for (int k = 0; k < 60; k++) {
            b.entry(Book.name(k), 4, 4, 4, 4, 4, 4);
        }
        // Five breaks inside each entry, each a split and a turn.
        due(600000, b.set());
        due(360, b.told(1));
        due(360, b.told(2));
        due(359, b.where(59, 5));
    }

    public static void main(String[] args) {
        run(Promise10Test.class);
    }
}
