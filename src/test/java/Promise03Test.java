/** Promise 3, push: "A SENSE of so many LINES is pushed: how many there are". */
public final class Promise03Test extends Checks {
    private static int linesOfTheOnlyColumn(Book b) {
        b.feed("a");
        b.entry(1);
        due(0, b.set());
        due(1, b.told(2));
        return b.column(0, 3);
    }

    static void oneLineIsTheLeast() {
        Book b = Book.of(60, 1, 0, 0, 0);
        due(1, b.push(1));
        due(1, linesOfTheOnlyColumn(b));
    }

    static void twentyLinesAreTheMost() {
        Book b = Book.of(60, 1, 0, 0, 0);
        due(1, b.push(20));
        due(20, linesOfTheOnlyColumn(b));
    }

    static void noLineIsRefused() {
        Book b = new Book();
        due(ARGUMENT, b.push(0));
        due(0, b.count(2));
    }

    static void twentyOneLinesAreRefused() {
        Book b = new Book();
        due(ARGUMENT, b.push(21));
        due(0, b.count(2));
    }

    static void linesFarOutsideAreRefused() {
        Book b = new Book();
        due(ARGUMENT, b.push(-1));
        due(ARGUMENT, b.push(LEAST));
        due(ARGUMENT, b.push(MOST));
        due(0, b.count(2));
    }

    static void aRefusedPushLeavesThoseThatAreThere() {
        Book b = Book.of(60, 1, 0, 0, 0);
        b.push(5);
        due(ARGUMENT, b.push(21));
        due(2, b.push(6));
        due(11, linesOfTheOnlyColumn(b));
    }

    static void sixAreTheMost() {
        Book b = new Book();
        for (int k = 1; k <= 6; k++) {
            due(k, b.push(k));
            due(k, b.count(2));
        }
    }

    static void theSeventhAnswersNoneAndDoesNothing() {
        Book b = Book.of(60, 1, 0, 0, 0);
        for (int k = 1; k <= 6; k++) {
            b.push(k);
        }
        due(NONE, b.push(20));
        due(NONE, b.push(1));
        due(6, b.count(2));
        due(21, linesOfTheOnlyColumn(b));
        due(6, b.told(3));
    }

    static void wrongLinesAreRefusedAlsoWhenSixAreThere() {
        Book b = new Book();
        for (int k = 1; k <= 6; k++) {
            b.push(k);
        }
        due(ARGUMENT, b.push(0));
        due(ARGUMENT, b.push(21));
        due(6, b.count(2));
    }

    static void sensesKeepTheOrderInWhichTheyWerePushed() {
        Book b = Book.of(4, 4, 0, 0, 0);
        due(0, b.entry("a", 4, 3, 2));
        due(1, b.set());
        due(4, b.column(0, 3));
        due(3, b.column(1, 3));
        due(2, b.column(2, 3));
    }

    static void behindAnEntryTheyAreCountedAnew() {
        Book b = new Book();
        b.entry("a", 1, 2, 3, 4, 5, 6);
        due(1, b.push(7));
    }

    public static void main(String[] args) {
        run(Promise03Test.class);
    }
}
