/** Promise 12, column: "Of COLUMN k, from 0 on through all PAGES". */
public final class Promise12Test extends Checks {
    private static Book withTwo() {
        Book b = Book.of(4, 1, 0, 10, 20);
        b.entry("b", 3, 1, 4);
        due(30, b.set());
        return b;
    }

    private static void columnIs(Book b, int k, int... numbers) {
        for (int what = 0; what < 4; what++) {
            due(numbers[what], b.column(k, what));
        }
    }

    static void theFourNumbersOfTheFirstAndTheLast() {
        Book b = withTwo();
        columnIs(b, 0, 0, 0, 2, 4);
        columnIs(b, 1, 0, 2, 1, 4);
    }

    static void columnsAreCountedThroughAllPages() {
        Book b = Book.of(4, 2, 0, 10, 20);
        for (int k = 0; k < 5; k++) {
            b.entry(Book.name(4 - k), 4);
        }
        b.set();
        for (int k = 0; k < 5; k++) {
            due(4 - k, b.column(k, 0));
        }
        due(INDEX, b.column(5, 0));
    }

    static void linesAreThoseUnderTheLetterToo() {
        Book b = Book.of(7, 2, 3, 10, 20);
        b.entry("a", 4);
        b.entry("b", 1);
        b.set();
        columnIs(b, 0, 0, 0, 1, 7);
        columnIs(b, 1, 1, 0, 1, 4);
    }

    static void whenNothingIsSetThereIsNoColumn() {
        Book b = new Book();
        b.entry("a", 1);
        due(INDEX, b.column(0, 0));
        due(INDEX, b.column(0, 3));
        due(INDEX, b.column(-1, 0));
    }

    static void belowZeroThereIsNoColumn() {
        Book b = withTwo();
        due(INDEX, b.column(-1, 0));
        due(INDEX, b.column(LEAST, 3));
    }

    static void behindTheLastThereIsNoColumn() {
        Book b = withTwo();
        due(INDEX, b.column(2, 0));
        due(INDEX, b.column(900, 1));
        due(INDEX, b.column(MOST, 3));
    }

    static void aWhatBelowZeroIsRefused() {
        Book b = withTwo();
        due(ARGUMENT, b.column(0, -1));
        due(ARGUMENT, b.column(1, LEAST));
    }

    static void aWhatOverThreeIsRefused() {
        Book b = withTwo();
        due(ARGUMENT, b.column(0, 4));
        due(ARGUMENT, b.column(1, MOST));
    }

    static void theColumnIsLookedAtAheadOfWhat() {
        Book b = withTwo();
        due(INDEX, b.column(2, 4));
        due(INDEX, b.column(-1, -1));
        due(INDEX, new Book().column(0, 4));
    }

    static void aColumnOfTheSettingAheadIsGone() {
        Book b = withTwo();
        b.set(HEIGHT, 8);
        b.set();
        columnIs(b, 0, 0, 0, 3, 8);
        due(INDEX, b.column(1, 0));
    }

    static void aColumnStaysWhenItsEntryIsDropped() {
        Book b = withTwo();
        b.drop(0);
        due(NONE, b.set());
        columnIs(b, 1, 0, 2, 1, 4);
    }

    public static void main(String[] args) {
        run(Promise12Test.class);
    }
}
