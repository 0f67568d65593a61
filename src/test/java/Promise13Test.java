/** Promise 13, where: "The COLUMN in which a SENSE of an ENTRY is; NONE: it isn't there." */
public final class Promise13Test extends Checks {
    /** Entries 2 and 1 in column 0, the senses of entry 0 in columns 1, 1 and 2. */
    private static Book standing() {
        Book b = Book.of(4, 1, 0, 0, 0);
        b.entry("b", 3, 1, 4);
        b.see("aa", "b");
        b.entry("a", 3);
        due(0, b.set());
        return b;
    }

    static void eachSenseHasItsColumn() {
        Book b = standing();
        due(0, b.where(2, 0));
        due(0, b.where(1, 0));
        due(1, b.where(0, 0));
        due(1, b.where(0, 1));
        due(2, b.where(0, 2));
    }

    static void aSenseBelowTheFirstIsNotThere() {
        Book b = standing();
        due(NONE, b.where(0, -1));
        due(NONE, b.where(1, -6));
        due(NONE, b.where(2, -1));
        due(NONE, b.where(2, -12));
        due(NONE, b.where(0, LEAST));
    }

    static void aSenseBelowTheFirstIsNotTheLastOfTheEntryAhead() {
        Book b = Book.of(60, 1, 0, 0, 0);
        b.entry("a", 1, 1, 1, 1, 1, 1);
        b.entry("b", 1);
        b.set();
        due(NONE, b.where(1, -1));
        due(NONE, b.where(1, -6));
    }

    static void aSenseBehindTheLastIsNotThere() {
        Book b = standing();
        due(NONE, b.where(0, 3));
        due(NONE, b.where(1, 1));
        due(NONE, b.where(0, 5));
    }

    static void aSenseBehindTheLastIsNotTheNextEntrys() {
        Book b = standing();
        due(NONE, b.where(0, 6));
        due(NONE, b.where(0, 12));
        due(NONE, b.where(1, 6));
    }

    static void aSenseFarBehindDoesNotWrapAround() {
        Book b = standing();
        due(NONE, b.where(0, MOST));
        due(NONE, b.where(1, MOST));
        due(NONE, b.where(2, MOST - 11));
    }

    static void theSixthSenseIsThere() {
        Book b = Book.of(4, 4, 0, 0, 0);
        b.entry("a", 4, 4, 4, 4, 4, 4);
        b.set();
        due(5, b.where(0, 5));
        due(NONE, b.where(0, 6));
    }

    static void theLastOf150IsThere() {
        Book b = Book.of(60, 4, 0, 0, 0);
        b.fill(150);
        b.set();
        due(2, b.where(149, 0));
        due(NONE, b.where(149, 1));
        due(INDEX, b.where(150, 0));
    }

    static void belowTheFirstNumberThereWasNone() {
        Book b = standing();
        due(INDEX, b.where(-1, 0));
        due(INDEX, b.where(-1, 6));
        due(INDEX, b.where(LEAST, 0));
    }

    static void behindTheLastNumberThereWasNone() {
        Book b = standing();
        due(INDEX, b.where(3, 0));
        due(INDEX, b.where(150, 0));
        due(INDEX, b.where(MOST, 0));
    }

    static void theEntryIsLookedAtAheadOfTheSense() {
        Book b = standing();
        due(INDEX, b.where(3, 6));
        due(INDEX, b.where(-1, -1));
    }

    static void whenNothingIsSetItIsNotThere() {
        Book b = new Book();
        b.entry("a", 1);
        due(NONE, b.where(0, 0));
    }

    static void aLateEntryIsNotThereYet() {
        Book b = standing();
        b.entry("c", 1);
        due(NONE, b.where(3, 0));
        b.set();
        due(3, b.where(3, 0));
    }

    static void aDroppedEntryIsThereTillThereIsAnotherSetting() {
        Book b = standing();
        b.drop(0);
        due(2, b.where(0, 2));
        b.set();
        due(NONE, b.where(0, 2));
        due(NONE, b.where(0, 0));
        due(0, b.where(1, 0));
    }

    static void aDroppedLastEntryIsGoneAlsoBehindManySettings() {
        Book b = standing();
        b.entry("c", 4);
        for (int k = 0; k < 3; k++) {
            b.set();
            due(3, b.where(3, 0));
        }
        b.drop(3);
        for (int k = 0; k < 3; k++) {
            b.set();
            due(NONE, b.where(3, 0));
        }
    }

    public static void main(String[] args) {
        run(Promise13Test.class);
    }
}
