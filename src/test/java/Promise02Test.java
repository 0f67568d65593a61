/** Promise 2, set: "HEIGHT (0), COLUMNS (1), LETTER (2), SPLIT (3), TURN (4) is v: what it was." */
public final class Promise02Test extends Checks {
    private static void takes(int what, int first, int lowest, int highest) {
        Book b = new Book();
        due(first, b.set(what, lowest));
        due(lowest, b.set(what, highest));
        due(highest, b.set(what, highest));
        due(highest, b.set(what, first));
    }

    private static void refuses(int what, int first, int v) {
        Book b = new Book();
        due(ARGUMENT, b.set(what, v));
        due(first, b.set(what, first));
    }

    static void heightIs4To60And20AtFirst() {
        takes(HEIGHT, 20, 4, 60);
    }

    static void heightUnder4IsRefused() {
        refuses(HEIGHT, 20, 3);
        refuses(HEIGHT, 20, 0);
        refuses(HEIGHT, 20, LEAST);
    }

    static void heightOver60IsRefused() {
        refuses(HEIGHT, 20, 61);
        refuses(HEIGHT, 20, MOST);
    }

    static void columnsAre1To4And2AtFirst() {
        takes(COLUMNS, 2, 1, 4);
    }

    static void columnsUnder1AreRefused() {
        refuses(COLUMNS, 2, 0);
        refuses(COLUMNS, 2, LEAST);
    }

    static void columnsOver4AreRefused() {
        refuses(COLUMNS, 2, 5);
        refuses(COLUMNS, 2, MOST);
    }

    static void letterIs0To3And2AtFirst() {
        takes(LETTER, 2, 0, 3);
    }

    static void letterUnder0IsRefused() {
        refuses(LETTER, 2, -1);
        refuses(LETTER, 2, LEAST);
    }

    static void letterOver3IsRefused() {
        refuses(LETTER, 2, 4);
        refuses(LETTER, 2, MOST);
    }

    static void splitIs0To1000And10AtFirst() {
        takes(SPLIT, 10, 0, 1000);
    }

    static void splitUnder0IsRefused() {
        refuses(SPLIT, 10, -1);
        refuses(SPLIT, 10, LEAST);
    }

    static void splitOver1000IsRefused() {
        refuses(SPLIT, 10, 1001);
        refuses(SPLIT, 10, MOST);
    }

    static void turnIs0To1000And20AtFirst() {
        takes(TURN, 20, 0, 1000);
    }

    static void turnUnder0IsRefused() {
        refuses(TURN, 20, -1);
        refuses(TURN, 20, LEAST);
    }

    static void turnOver1000IsRefused() {
        refuses(TURN, 20, 1001);
        refuses(TURN, 20, MOST);
    }

    static void anotherWhatIsRefused() {
        Book b = new Book();
        for (int what : new int[] {-1, 5, 6, LEAST, MOST}) {
            due(ARGUMENT, b.set(what, 4));
            due(ARGUMENT, b.set(what, -1));
        }
    }

    static void eachValueIsItsOwn() {
        Book b = Book.of(5, 1, 3, 7, 9);
        due(5, b.set(HEIGHT, 4));
        due(1, b.set(COLUMNS, 4));
        due(3, b.set(LETTER, 0));
        due(7, b.set(SPLIT, 1));
        due(9, b.set(TURN, 2));
    }

    static void aRefusedCallChangesNothing() {
        Book b = new Book();
        b.entry("a", 20, 20);
        b.set(HEIGHT, 22);
        b.set();
        b.push(3);
        b.feed("b");
        String before = b.all();
        due(ARGUMENT, b.set(HEIGHT, 61));
        due(ARGUMENT, b.set(5, 10));
        due(before, b.all());
    }

    static void whatIsSetStaysTillThereIsAnother() {
        Book b = Book.of(4, 2, 0, 0, 0);
        b.entry("a", 4, 4, 4);
        b.set();
        String before = b.setting();
        b.set(HEIGHT, 60);
        b.set(COLUMNS, 1);
        b.set(LETTER, 3);
        b.set(SPLIT, 1000);
        b.set(TURN, 1000);
        due(before, b.setting());
    }

    public static void main(String[] args) {
        run(Promise02Test.class);
    }
}
