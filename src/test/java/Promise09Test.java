/** Promise 9, leads: "To which ENTRY a SEE LEADS; NONE: to a HEAD that none has; -2: into a RING." */
public final class Promise09Test extends Checks {
    private static final int RING = -2;

    static void belowTheFirstNumberThereWasNone() {
        Book b = new Book();
        b.entry("a", 1);
        due(INDEX, b.leads(-1));
        due(INDEX, b.leads(LEAST));
    }

    static void behindTheLastNumberThereWasNone() {
        Book b = new Book();
        b.entry("a", 1);
        due(INDEX, b.leads(1));
        due(INDEX, b.leads(150));
        due(INDEX, b.leads(MOST));
    }

    static void anotherEntryLeadsToItself() {
        Book b = new Book();
        b.entry("a", 1);
        b.entry("a", 1);
        due(0, b.leads(0));
        due(1, b.leads(1));
    }

    static void anotherEntryThatWasDroppedLeadsToItself() {
        Book b = new Book();
        b.entry("a", 1);
        b.drop(0);
        due(0, b.leads(0));
    }

    static void aHeadThatNoneHas() {
        Book b = new Book();
        b.see("a", "b");
        due(NONE, b.leads(0));
    }

    static void aHeadThatOnlyBeginsAnother() {
        Book b = new Book();
        b.see("a", "bc");
        b.entry("b", 1);
        b.entry("bcd", 1);
        due(NONE, b.leads(0));
    }

    static void aHeadBehindAllOthersAndOneAheadOfThem() {
        Book b = new Book();
        b.entry("m", 1);
        b.see("n", "zzzzzzzzzzzz");
        b.see("o", "a");
        due(NONE, b.leads(1));
        due(NONE, b.leads(2));
    }

    static void aHeadThatNoneHasAnyMore() {
        Book b = new Book();
        b.see("a", "b");
        b.entry("b", 1);
        due(1, b.leads(0));
        b.drop(1);
        due(NONE, b.leads(0));
        due(2, b.entry("b", 1));
        due(2, b.leads(0));
    }

    static void theFirstInOrderOfAlikeHeads() {
        Book b = new Book();
        b.see("z", "a");
        b.entry("a", 1);
        b.entry("a", 1);
        due(1, b.leads(0));
        b.drop(1);
        due(2, b.leads(0));
    }

    static void theFirstOfAlikeHeadsEvenIfItLeadsNowhere() {
        Book b = new Book();
        b.see("a", "x");
        b.entry("a", 1);
        b.see("z", "a");
        due(NONE, b.leads(2));
    }

    static void onToWhereThatLeads() {
        Book b = new Book();
        b.see("a", "b");
        b.see("b", "c");
        b.entry("c", 1);
        due(2, b.leads(0));
        due(2, b.leads(1));
        b.drop(2);
        due(NONE, b.leads(0));
    }

    static void aRingOfOne() {
        Book b = new Book();
        b.see("a", "a");
        due(RING, b.leads(0));
    }

    static void aRingOfTwo() {
        Book b = new Book();
        b.see("a", "b");
        b.see("b", "a");
        due(RING, b.leads(0));
        due(RING, b.leads(1));
    }

    static void intoARingFromOutside() {
        Book b = new Book();
        b.see("a", "b");
        b.see("b", "c");
        b.see("c", "b");
        due(RING, b.leads(0));
    }

    static void itsOwnHeadWithAnotherAheadOfIt() {
        Book b = new Book();
        b.entry("a", 1);
        b.see("a", "a");
        due(0, b.leads(1));
        b.drop(0);
        due(RING, b.leads(1));
    }

    static void itsOwnHeadWithAnotherBehindIt() {
        Book b = new Book();
        b.see("a", "a");
        b.entry("a", 1);
        due(RING, b.leads(0));
    }

    static void alikeHeadsPassedOnceAreNoRing() {
        Book b = new Book();
        b.see("b", "c");
        b.see("b", "b");
        b.entry("c", 1);
        // From 1 to 0, which has the head of 1, and on.
        due(2, b.leads(1));
    }

    static void aDroppedSeeLeadsOn() {
        Book b = new Book();
        b.see("a", "b");
        b.entry("b", 1);
        b.drop(0);
        due(1, b.leads(0));
    }

    static void aDroppedSeeIsNotComeUponAgain() {
        Book b = new Book();
        b.see("a", "b");
        b.see("b", "a");
        due(RING, b.leads(0));
        b.drop(0);
        due(NONE, b.leads(0));
        due(NONE, b.leads(1));
    }

    static void aDroppedSeeOfItsOwnHeadLeadsToTheNext() {
        Book b = new Book();
        b.see("a", "a");
        b.entry("a", 1);
        b.drop(0);
        due(1, b.leads(0));
    }

    static void aRingIsOpenedAgain() {
        Book b = new Book();
        b.see("a", "b");
        b.see("b", "a");
        b.drop(1);
        b.entry("b", 1);
        due(2, b.leads(0));
        due(2, b.leads(1));
    }

    static void aWayThrough150() {
        Book b = new Book();
        b.fill(149);
        due(NONE, b.leads(0));
        due(149, b.entry(Book.name(149), 1));
        due(149, b.leads(0));
        due(149, b.leads(148));
    }

    static void aRingOf150() {
        Book b = new Book();
        b.fill(149);
        b.see(Book.name(149), Book.name(0));
        due(RING, b.leads(0));
        due(RING, b.leads(149));
    }

    static void aRingAtTheEndOfALongWay() {
        Book b = new Book();
        b.fill(149);
        b.see(Book.name(149), Book.name(149));
        due(RING, b.leads(0));
    }

    static void headsOfTwelveLettersAreFound() {
        Book b = new Book();
        b.entry("zzzzzzzzzzzz", 1);
        b.entry("zzzzzzzzzzzy", 1);
        b.see("a", "zzzzzzzzzzzy");
        due(1, b.leads(2));
        b.see("b", "zzzzzzzzzzz");
        due(NONE, b.leads(3));
    }

    public static void main(String[] args) {
        run(Promise09Test.class);
    }
}
