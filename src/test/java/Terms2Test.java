/** The terms, part 2: blocks, where may be broken, what a setting costs, and which one is best. */
public final class Terms2Test extends Checks {
    /** Columns of 4 lines, two on a page, nothing above a letter. */
    private static Book low() {
        return Book.of(4, 2, 0, 10, 20);
    }

    private static void isSet(Book b, int cost, String blocksOfColumns) {
        due(cost, b.set());
        due(blocksOfColumns, b.columns());
    }

    private static void isSetForNothing(Book b, int lines) {
        isSet(b, 0, "1");
        due(lines, b.column(0, 3));
    }

    // "The first BLOCK of a LETTER has LETTER more LINES (the LETTER stands above it)."

    static void onlyTheFirstBlockOfALetterHasMoreLines() {
        Book b = Book.of(60, 1, 3, 10, 20);
        b.entry("a", 1, 1);
        b.entry("ab", 1);
        b.see("b", "a");
        isSet(b, 0, "4");
        due(10, b.column(0, 3));
    }

    static void withLetter0NoBlockHasMoreLines() {
        Book b = Book.of(60, 1, 0, 10, 20);
        b.entry("a", 1, 1);
        b.entry("ab", 1);
        b.see("b", "a");
        isSet(b, 0, "4");
        due(4, b.column(0, 3));
    }

    static void theNextOneHasThemWhenTheFirstIsDropped() {
        Book b = Book.of(60, 1, 3, 10, 20);
        b.entry("a", 2);
        b.entry("ab", 1);
        b.set();
        b.drop(0);
        isSetForNothing(b, 4);
    }

    static void aLateOneAheadTakesThemOver() {
        Book b = Book.of(4, 2, 2, 10, 20);
        b.entry("ab", 2);
        isSetForNothing(b, 4);
        b.entry("aa", 2);
        isSet(b, 0, "1 1");
        due(1, b.column(0, 0));
        due(4, b.column(0, 3));
        due(2, b.column(1, 3));
    }

    // "Behind a BLOCK may be BROKEN, if it is the last of its ENTRY, or not the first of it,
    // or has 2 LINES or more (those of LETTER not counted)."

    static void behindTheLastBlockOfAnEntryThoughItHasOneLine() {
        Book b = low();
        b.entry("a", 1);
        b.entry("b", 4);
        isSet(b, 9, "1 1");
    }

    static void behindASee() {
        Book b = low();
        b.see("a", "b");
        b.entry("b", 4);
        isSet(b, 9, "1 1");
    }

    static void behindAFirstBlockOfTwoLines() {
        Book b = low();
        b.entry("a", 2, 4);
        isSet(b, 14, "1 1");
    }

    static void notBehindAFirstBlockOfOneLine() {
        Book b = low();
        b.entry("a", 1, 4);
        due(NONE, b.set());
    }

    static void aFirstBlockOfOneLineStandsWithTheSecond() {
        Book b = low();
        b.entry("a", 1, 3);
        isSet(b, 0, "2");
    }

    static void notBehindAFirstBlockOfOneLineThoughItWereCheaper() {
        Book b = Book.of(4, 2, 0, 0, 0);
        b.entry("a", 3);
        b.entry("b", 1, 3);
        isSet(b, 1, "1 2");
    }

    static void linesOfLetterDoNotCountForABreak() {
        Book b = Book.of(4, 2, 3, 0, 0);
        b.entry("a", 1, 1);
        due(NONE, b.set());
        b.set(LETTER, 2);
        isSet(b, 0, "2");
    }

    static void aFirstBlockOfTwoLinesUnderItsLetterMayBeBrokenBehind() {
        Book b = Book.of(4, 2, 2, 10, 20);
        b.entry("a", 2, 1);
        isSet(b, 10, "1 1");
    }

    static void behindABlockOfOneLineThatIsNotTheFirst() {
        Book b = low();
        b.entry("a", 4, 1, 4);
        // 10 behind the first, 9 and 10 and 20 behind the second, where the page ends.
        isSet(b, 49, "1 1 1");
    }

    // "each with a run of BLOCKS, one at least, of HEIGHT LINES together at most"

    static void aColumnMayBeFull() {
        Book b = low();
        b.entry("a", 2);
        b.entry("b", 2);
        isSet(b, 0, "2");
    }

    static void aColumnMayNotHaveOneLineMore() {
        Book b = low();
        b.entry("a", 2);
        b.entry("b", 3);
        isSet(b, 4, "1 1");
    }

    static void aBlockAsHighAsTheColumn() {
        Book b = low();
        b.entry("a", 4);
        isSetForNothing(b, 4);
    }

    static void aBlockHigherThanTheColumn() {
        Book b = low();
        b.entry("a", 5);
        due(NONE, b.set());
        b.set(HEIGHT, 5);
        isSetForNothing(b, 5);
    }

    static void oneBlockTooHighAmongOthers() {
        Book b = low();
        b.entry("a", 2);
        b.entry("b", 4, 5, 4);
        b.entry("c", 2);
        due(NONE, b.set());
    }

    static void linesOfLetterCountForTheHeight() {
        Book b = Book.of(4, 2, 3, 10, 20);
        b.entry("a", 1);
        isSetForNothing(b, 4);
        b.drop(0);
        b.entry("a", 2);
        due(NONE, b.set());
    }

    static void theHighestBlockThereIs() {
        Book b = Book.of(22, 2, 3, 10, 20);
        b.entry("a", 20);
        due(NONE, b.set());
        b.set(HEIGHT, 23);
        isSetForNothing(b, 23);
    }

    static void theHighestColumnThereIs() {
        Book b = Book.of(60, 2, 0, 10, 20);
        b.entry("a", 20, 20, 20);
        isSet(b, 0, "3");
        b.set(LETTER, 1);
        // 19 lines are left in the first column.
        isSet(b, 371, "2 1");
    }

    // "COST of each COLUMN but the last one: (HEIGHT less its LINES) times itself; SPLIT, .. TURN"

    static void theLastColumnCostsNothing() {
        Book b = Book.of(60, 1, 0, 1000, 1000);
        b.entry("a", 1);
        isSetForNothing(b, 1);
    }

    static void aColumnCostsTheSquareOfWhatIsLeft() {
        Book b = Book.of(20, 1, 0, 1000, 1000);
        b.entry("a", 1);
        b.entry("b", 20);
        isSet(b, 361, "1 1");
    }

    static void splitIsForABreakInsideAnEntry() {
        Book b = Book.of(4, 4, 0, 7, 100);
        b.entry("a", 4);
        b.entry("b", 4);
        isSet(b, 0, "1 1");
        b.entry("c", 4, 4);
        isSet(b, 7, "1 1 1 1");
    }

    static void turnIsForASplitBehindThePagesLastColumn() {
        int[] costs = {404, 204, 104, 104};
        for (int columns = 1; columns <= 4; columns++) {
            Book b = Book.of(4, columns, 0, 1, 100);
            b.entry("a", 4, 4, 4, 4, 4);
            isSet(b, costs[columns - 1], "1 1 1 1 1");
        }
    }

    static void everyPageHasItsTurn() {
        int[] costs = {707, 407, 207, 207};
        for (int columns = 1; columns <= 4; columns++) {
            Book b = Book.of(4, columns, 0, 1, 100);
            b.entry("a", 4, 4, 4, 4, 4);
            b.entry("b", 4, 4, 4, 4);
            isSet(b, costs[columns - 1], "1 1 1 1 1 1 1 1 1");
        }
    }

    static void theLastColumnOfAllCostsNoTurn() {
        int[] costs = {303, 103, 103, 3};
        for (int columns = 1; columns <= 4; columns++) {
            Book b = Book.of(4, columns, 0, 1, 100);
            b.entry("a", 4, 4, 4, 4);
            isSet(b, costs[columns - 1], "1 1 1 1");
        }
    }

    static void noTurnWherePagesPartBetweenEntries() {
        Book b = Book.of(4, 1, 0, 1000, 1000);
        b.entry("a", 4);
        b.entry("b", 4);
        b.entry("c", 4);
        isSet(b, 0, "1 1 1");
    }

    static void splitAndTurnMayBeNothing() {
        Book b = Book.of(4, 1, 0, 0, 0);
        b.entry("a", 4, 4, 4);
        isSet(b, 0, "1 1 1");
    }

    static void splitAndTurnMayBe1000() {
        Book b = Book.of(4, 1, 0, 1000, 1000);
        b.entry("a", 4, 4);
        isSet(b, 2000, "1 1");
    }

    // "BEST: of all SETTINGS those of the least COST together; .."

    private static Book splitOrNot(int columns, int turn) {
        Book b = Book.of(6, columns, 0, 0, turn);
        b.entry("a", 2, 2);
        b.entry("b", 2, 2);
        return b;
    }

    static void aSplitThatIsCheaperThanAGap() {
        isSet(splitOrNot(1, 3), 3, "3 1");
    }

    static void aGapThatIsCheaperThanASplit() {
        isSet(splitOrNot(1, 5), 4, "2 2");
    }

    static void ofASplitAndAGapThatCostTheSameTheMostBlocksAhead() {
        isSet(splitOrNot(1, 4), 4, "3 1");
    }

    static void noTurnIsWeighedInsideAPage() {
        isSet(splitOrNot(2, 1000), 0, "3 1");
    }

    /** Six columns and a turn, or gaps of 8 and a split more, so that the page ends behind a. */
    private static Book turnOrGaps(int turn) {
        Book b = Book.of(4, 4, 0, 1, turn);
        b.entry("a", 2, 2, 2, 2, 2, 2);
        b.entry("b", 2, 2, 2, 2, 2, 2);
        return b;
    }

    static void aTurnThatIsCheaperThanGaps() {
        isSet(turnOrGaps(8), 12, "2 2 2 2 2 2");
    }

    static void gapsThatAreCheaperThanATurn() {
        isSet(turnOrGaps(10), 13, "2 2 1 1 2 2 2");
    }

    static void aTurnAndGapsThatCostTheSame() {
        isSet(turnOrGaps(9), 13, "2 2 2 2 2 2");
    }

    private static Book twoColumnsOrThree(int split) {
        Book b = Book.of(4, 2, 0, split, 0);
        b.entry("a", 2);
        b.entry("b", 2, 2);
        b.entry("c", 2);
        return b;
    }

    static void ofEqualCostTheFewestColumns() {
        isSet(twoColumnsOrThree(4), 4, "2 2");
    }

    static void moreColumnsIfTheyCostLess() {
        isSet(twoColumnsOrThree(5), 4, "1 2 1");
    }

    static void ofEqualsTheFirstColumnHasTheMostBlocks() {
        Book b = Book.of(4, 4, 0, 10, 20);
        b.entry("a", 3);
        b.entry("b", 1);
        b.entry("c", 3);
        b.entry("d", 4);
        isSet(b, 1, "2 1 1");
    }

    static void ofEqualsThenTheSecondColumnHasTheMostBlocks() {
        Book b = Book.of(4, 4, 0, 10, 20);
        b.entry("a", 4);
        b.entry("b", 3);
        b.entry("c", 1);
        b.entry("d", 3);
        b.entry("e", 4);
        isSet(b, 1, "1 2 1 1");
    }

    public static void main(String[] args) {
        run(Terms2Test.class);
    }
}
