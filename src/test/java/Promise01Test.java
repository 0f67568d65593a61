/** Promise 1, a new object: "No ENTRIES; nothing is SET." */
public final class Promise01Test extends Checks {
    static void noEntryIsThere() {
        Book b = new Book();
        due(0, b.count(0));
        due(0, b.count(1));
        due(NONE, b.order(0));
    }

    static void noEntryHasBeenThere() {
        Book b = new Book();
        due(INDEX, b.drop(0));
        due(INDEX, b.leads(0));
        due(INDEX, b.where(0, 0));
    }

    static void nothingIsPushedNorOnTheTape() {
        Book b = new Book();
        due(0, b.count(2));
        due(0, b.count(3));
    }

    static void nothingIsSet() {
        Book b = new Book();
        for (int what = 0; what < 5; what++) {
            due(0, b.told(what));
        }
    }

    static void noColumnAndNoPageIsThere() {
        Book b = new Book();
        for (int what = 0; what < 4; what++) {
            due(INDEX, b.column(0, what));
        }
        due(INDEX, b.guide(0, 0));
        due(INDEX, b.guide(0, 1));
    }

    static void thereIsNoSetting() {
        Book b = new Book();
        due(NONE, b.set());
        due("told 0 0 0 0 0", b.setting());
    }

    static void noLetterIsThere() {
        Book b = new Book();
        for (int letter = 0; letter < 26; letter++) {
            due(NONE, b.thumb(letter, 10000));
        }
        due(NONE, b.volume());
    }

    static void theValuesAreThoseOfTheBeginning() {
        Book b = new Book();
        due(20, b.set(HEIGHT, 20));
        due(2, b.set(COLUMNS, 2));
        due(2, b.set(LETTER, 2));
        due(10, b.set(SPLIT, 10));
        due(20, b.set(TURN, 20));
    }

    static void noneIsMinusOne() {
        due(-1, GuideWords.NONE);
    }

    static void twoObjectsShareNothing() {
        Book b = Book.of(4, 1, 0, 0, 0);
        b.entry("a", 4, 4);
        b.set();
        b.push(1);
        b.feed("x");
        Book other = new Book();
        due(new Book().all(), other.all());
        due(20, other.set(HEIGHT, 20));
        due(2, b.told(2));
    }

    /** "An object is used for at most 512 calls after it has been made" */
    static void theLastOf512CallsIsAnsweredToo() {
        Book b = new Book();
        b.entry("a", 3);
        b.entry("b", 3);
        while (b.calls() < Book.MOST_CALLS - 2) {
            due(2, b.count(0));
        }
        due(0, b.set());
        due(10, b.column(0, 3));
        due(Book.MOST_CALLS, b.calls());
    }

    public static void main(String[] args) {
        run(Promise01Test.class);
    }
}
