/** Promise 7, drop: "An ENTRY is dropped: true; false: it was." */
public final class Promise07Test extends Checks {
    private static Book withTwo() {
        Book b = new Book();
        b.entry("a", 1);
        b.see("b", "a");
        return b;
    }

    static void theFirstTimeIsTrue() {
        Book b = withTwo();
        due(1, b.drop(0));
        due(1, b.drop(1));
        due(0, b.count(0));
    }

    static void theSecondTimeIsFalseAndChangesNothing() {
        Book b = withTwo();
        b.drop(0);
        String before = b.all();
        due(0, b.drop(0));
        due(0, b.drop(0));
        due(before, b.all());
        due(1, b.count(0));
    }

    static void belowTheFirstNumberThereWasNone() {
        Book b = withTwo();
        String before = b.all();
        due(INDEX, b.drop(-1));
        due(INDEX, b.drop(LEAST));
        due(before, b.all());
    }

    static void behindTheLastNumberThereWasNone() {
        Book b = withTwo();
        String before = b.all();
        due(INDEX, b.drop(2));
        due(INDEX, b.drop(150));
        due(INDEX, b.drop(MOST));
        due(before, b.all());
    }

    static void aDroppedOneWasThereAllTheSame() {
        Book b = withTwo();
        b.drop(1);
        due(2, b.count(1));
        due(0, b.leads(1));
        due(NONE, b.where(1, 0));
        due(0, b.drop(1));
    }

    static void itsNumberIsNotGivenAgain() {
        Book b = withTwo();
        b.drop(1);
        due(2, b.see("b", "a"));
        b.drop(2);
        b.drop(0);
        due(3, b.entry("a", 1));
    }

    static void theLastOf150IsDropped() {
        Book b = new Book();
        b.fill(150);
        due(1, b.drop(149));
        due(0, b.drop(149));
        due(INDEX, b.drop(150));
        due(149, b.count(0));
    }

    static void all150AreDroppedAndMakeNoRoom() {
        Book b = new Book();
        b.fill(150);
        for (int k = 0; k < 150; k++) {
            due(1, b.drop(k));
        }
        due(0, b.count(0));
        due(150, b.count(1));
        due(NONE, b.order(0));
        due(NONE, b.set());
        due(-3, b.entry("a", 1));
    }

    static void whatIsSetStaysTillThereIsAnother() {
        Book b = withTwo();
        b.set();
        String before = b.setting();
        b.drop(0);
        b.drop(1);
        due(before, b.setting());
        due(0, b.where(0, 0));
        due(0, b.where(1, 0));
        due(NONE, b.set());
        due(before, b.setting());
    }

    public static void main(String[] args) {
        run(Promise07Test.class);
    }
}
