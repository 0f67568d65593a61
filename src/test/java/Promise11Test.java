/** Promise 11, told: "0 COST, 1 PAGES, 2 COLUMNS in all, 3 BLOCKS, 4 how many PAGES are CHANGED". */
public final class Promise11Test extends Checks {
    /** Entries with the heads ba, bb and so on, each a column by itself, two on a page. */
    private static Book withColumns(int columns) {
        Book b = Book.of(4, 2, 0, 10, 20);
        for (int k = 0; k < columns; k++) {
            b.entry(Book.name(26 + k), 4);
        }
        due(0, b.set());
        return b;
    }

    private static int changed(Book b) {
        b.set();
        return b.told(4);
    }

    static void itIs0IfNothingIsSet() {
        Book b = new Book();
        b.entry("a", 3);
        for (int what = 0; what < 5; what++) {
            due(0, b.told(what));
        }
    }

    static void belowZeroIsRefused() {
        for (Book b : new Book[] {new Book(), withColumns(3)}) {
            due(ARGUMENT, b.told(-1));
            due(ARGUMENT, b.told(LEAST));
        }
    }

    static void overFourIsRefused() {
        for (Book b : new Book[] {new Book(), withColumns(3)}) {
            due(ARGUMENT, b.told(5));
            due(ARGUMENT, b.told(MOST));
        }
    }

    static void theFiveNumbers() {
        Book b = Book.of(4, 1, 0, 10, 20);
        b.entry("a", 2, 2, 4);
        b.set();
        int[] numbers = {30, 2, 2, 3, 2};
        for (int what = 0; what < 5; what++) {
            due(numbers[what], b.told(what));
        }
    }

    static void aPageIsCountedFromItsFirstColumnOn() {
        int[] pages = {1, 1, 2, 2, 3};
        for (int columns = 1; columns <= 5; columns++) {
            Book b = withColumns(columns);
            due(columns, b.told(2));
            due(pages[columns - 1], b.told(1));
        }
    }

    static void fourColumnsMakeOnePageToFourPages() {
        int[] pages = {4, 2, 2, 1};
        for (int onPage = 1; onPage <= 4; onPage++) {
            Book b = withColumns(4);
            b.set(COLUMNS, onPage);
            due(2, b.told(1));
            b.set();
            due(pages[onPage - 1], b.told(1));
        }
    }

    // CHANGED: "those that are not alike: with the same ENTRIES' SENSES in the same COLUMNS;
    // those that just one has, too" ("none ahead of the first")

    static void behindTheFirstSettingAllPagesAreChanged() {
        due(3, withColumns(5).told(4));
    }

    static void behindTheSameSettingNoneIs() {
        Book b = withColumns(5);
        due(0, changed(b));
        due(0, changed(b));
    }

    static void behindTheSameSettingOfManyBlocksNoneIs() {
        Book b = withBlocksTogether();
        due("4 2", b.columns());
        due(0, changed(b));
    }

    static void anotherLastBlockOfAColumn() {
        Book b = withBlocksTogether();
        b.drop(3);
        b.see("d", "a");
        due(1, changed(b));
        due("4 2", b.columns());
    }

    /** Two pages of a column each, with four lines and with two. */
    private static Book withBlocksTogether() {
        Book b = Book.of(4, 1, 0, 10, 20);
        for (int k = 0; k < 6; k++) {
            b.see("" + (char) ('a' + k), "a");
        }
        due(0, b.set());
        return b;
    }

    static void aLateEntryOnTheLastPage() {
        Book b = withColumns(5);
        b.entry("z", 4);
        due(1, changed(b));
        due(3, b.told(1));
    }

    static void aLateEntryOnAPageOfItsOwn() {
        Book b = withColumns(4);
        b.entry("z", 4);
        due(1, changed(b));
        due(3, b.told(1));
    }

    static void aLateEntryAheadOfAll() {
        Book b = withColumns(4);
        b.entry("a", 4);
        due(3, changed(b));
    }

    static void aLateEntryInTheMiddle() {
        Book b = withColumns(6);
        b.entry("bcc", 4);
        // Behind bc, the third: the second page on.
        due(3, changed(b));
        due(4, b.told(1));
    }

    static void aPageThatIsThereNoMore() {
        Book b = withColumns(5);
        b.drop(4);
        due(1, changed(b));
        due(2, b.told(1));
    }

    static void twoPagesThatAreThereNoMore() {
        Book b = withColumns(5);
        b.drop(4);
        b.drop(3);
        b.drop(2);
        due(2, changed(b));
    }

    static void aPageWithAColumnFewer() {
        Book b = withColumns(4);
        b.drop(3);
        due(1, changed(b));
        due(2, b.told(1));
    }

    static void theFirstEntryDropped() {
        Book b = withColumns(5);
        b.drop(0);
        due(3, changed(b));
    }

    static void theSameSensesInFewerColumns() {
        Book b = withColumns(2);
        b.set(HEIGHT, 8);
        due(1, changed(b));
        due(1, b.told(2));
    }

    static void theSameSensesInAsManyOtherColumns() {
        Book b = Book.of(6, 4, 0, 0, 0);
        b.entry("a", 2, 2);
        b.entry("b", 2, 2);
        b.set();
        due("3 1", b.columns());
        b.set(SPLIT, 5);
        due(1, changed(b));
        due("2 2", b.columns());
    }

    static void theSameColumnsOnOtherPages() {
        Book b = withColumns(2);
        b.set(COLUMNS, 1);
        due(2, changed(b));
        b.set(COLUMNS, 2);
        due(2, changed(b));
    }

    static void theSameColumnsOnTheSamePageThoughMoreWouldFit() {
        Book b = withColumns(2);
        b.set(COLUMNS, 4);
        due(0, changed(b));
    }

    static void otherLinesAloneAreNoChange() {
        Book b = Book.of(60, 2, 0, 10, 20);
        b.entry("a", 1);
        b.set();
        b.set(LETTER, 3);
        due(0, changed(b));
        due(4, b.column(0, 3));
    }

    static void anotherCostAloneIsNoChange() {
        Book b = Book.of(4, 2, 0, 10, 20);
        b.entry("a", 4, 4);
        b.set();
        b.set(SPLIT, 1000);
        due(0, changed(b));
        due(1000, b.told(0));
    }

    static void anotherEntryInThePlaceOfOneJustAlike() {
        Book b = withColumns(4);
        b.drop(3);
        b.entry(Book.name(29), 4);
        due(1, changed(b));
        due(4, b.column(3, 0));
    }

    static void aSenseMoreOnThePage() {
        Book b = Book.of(8, 2, 0, 10, 20);
        b.entry("a", 4);
        b.set();
        b.see("b", "a");
        due(1, changed(b));
        due(1, b.told(2));
    }

    static void itIsNotChangedBeforeItIsSet() {
        Book b = withColumns(4);
        b.set();
        b.drop(0);
        b.entry("z", 4);
        due(0, b.told(4));
    }

    static void noSettingLeavesWhatWasChanged() {
        Book b = withColumns(4);
        b.entry("z", 5);
        due(NONE, b.set());
        due(2, b.told(4));
    }

    static void noSettingIsNotTheOneAhead() {
        Book b = withColumns(4);
        b.entry("z", 5);
        due(NONE, b.set());
        b.drop(4);
        due(0, changed(b));
    }

    static void noSettingAtFirstIsNotTheOneAhead() {
        Book b = Book.of(4, 2, 0, 10, 20);
        b.entry("a", 5);
        due(NONE, b.set());
        b.set(HEIGHT, 5);
        due(1, changed(b));
    }

    static void onlyTheOneJustAheadCounts() {
        Book b = withColumns(4);
        b.entry("z", 4);
        due(1, changed(b));
        b.drop(4);
        due(1, changed(b));
        due(0, changed(b));
    }

    public static void main(String[] args) {
        run(Promise11Test.class);
    }
}
