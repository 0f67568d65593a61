/** Promise 14, guide: "The first (0) or last (1) GUIDE of a PAGE." */
public final class Promise14Test extends Checks {
    private static Book withPagesOf(int columns) {
        return Book.of(4, columns, 0, 0, 0);
    }

    private static void guidesAre(Book b, int page, int first, int last) {
        due(first, b.guide(page, 0));
        due(last, b.guide(page, 1));
    }

    static void theFirstAndTheLastThatBeginOnThePage() {
        Book b = withPagesOf(2);
        b.see("d", "a");
        b.see("c", "a");
        b.entry("b", 2);
        b.entry("a", 4);
        b.set();
        due(1, b.told(1));
        guidesAre(b, 0, 3, 0);
    }

    static void oneThatBeginsAloneIsBoth() {
        Book b = withPagesOf(2);
        b.entry("a", 4, 4, 4);
        b.set();
        guidesAre(b, 0, 0, 0);
    }

    static void whereNoneBeginsBothAreThePagesFirst() {
        Book b = withPagesOf(1);
        b.entry("b", 4, 4, 4);
        b.entry("a", 4);
        b.set();
        due(4, b.told(1));
        guidesAre(b, 0, 1, 1);
        guidesAre(b, 1, 0, 0);
        guidesAre(b, 2, 0, 0);
        guidesAre(b, 3, 0, 0);
    }

    static void oneThatGoesOnIsNoGuideWhereAnotherBegins() {
        Book b = withPagesOf(1);
        b.entry("a", 4, 2);
        b.entry("b", 1);
        b.entry("c", 1);
        b.set();
        due(2, b.told(1));
        guidesAre(b, 0, 0, 0);
        guidesAre(b, 1, 1, 2);
    }

    static void oneThatBeginsAtThePagesVeryEnd() {
        Book b = withPagesOf(2);
        b.entry("a", 4, 4, 4, 2);
        b.entry("b", 2, 4);
        b.set();
        due(3, b.told(1));
        guidesAre(b, 0, 0, 0);
        guidesAre(b, 1, 1, 1);
        guidesAre(b, 2, 1, 1);
    }

    static void aLastPageThatIsNotFull() {
        Book b = withPagesOf(4);
        for (int k = 0; k < 5; k++) {
            b.entry(Book.name(k), 4);
        }
        b.set();
        guidesAre(b, 0, 0, 3);
        guidesAre(b, 1, 4, 4);
    }

    static void whenNothingIsSetThereIsNoPage() {
        Book b = new Book();
        b.entry("a", 1);
        due(INDEX, b.guide(0, 0));
        due(INDEX, b.guide(0, 1));
    }

    private static Book withTwoPages() {
        Book b = withPagesOf(1);
        b.entry("a", 4);
        b.entry("b", 4);
        b.set();
        return b;
    }

    static void belowZeroThereIsNoPage() {
        Book b = withTwoPages();
        due(INDEX, b.guide(-1, 0));
        due(INDEX, b.guide(LEAST, 1));
    }

    static void behindTheLastThereIsNoPage() {
        Book b = withTwoPages();
        due(1, b.guide(1, 0));
        due(INDEX, b.guide(2, 0));
        due(INDEX, b.guide(MOST, 1));
    }

    static void pagesAreCountedNotColumns() {
        Book b = withPagesOf(2);
        b.entry("a", 4);
        b.entry("b", 4);
        b.set();
        due(INDEX, b.guide(1, 0));
    }

    static void aWhichBelowZeroIsRefused() {
        Book b = withTwoPages();
        due(ARGUMENT, b.guide(0, -1));
        due(ARGUMENT, b.guide(1, LEAST));
    }

    static void aWhichOverOneIsRefused() {
        Book b = withTwoPages();
        due(ARGUMENT, b.guide(0, 2));
        due(ARGUMENT, b.guide(1, MOST));
    }

    static void thePageIsLookedAtAheadOfWhich() {
        Book b = withTwoPages();
        due(INDEX, b.guide(2, 2));
        due(INDEX, b.guide(-1, -1));
        due(INDEX, new Book().guide(0, 2));
    }

    static void pagesStayWhenColumnsAreSetAnew() {
        Book b = withTwoPages();
        b.set(COLUMNS, 4);
        guidesAre(b, 0, 0, 0);
        guidesAre(b, 1, 1, 1);
        b.set();
        guidesAre(b, 0, 0, 1);
        due(INDEX, b.guide(1, 0));
    }

    static void aDroppedGuideStaysTillThereIsAnotherSetting() {
        Book b = withTwoPages();
        b.drop(0);
        guidesAre(b, 0, 0, 0);
        b.set();
        guidesAre(b, 0, 1, 1);
    }

    public static void main(String[] args) {
        run(Promise14Test.class);
    }
}
