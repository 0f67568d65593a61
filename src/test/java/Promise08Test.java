/** Promise 8, order: "The k-th ENTRY in ORDER, from 0 on; NONE." */
public final class Promise08Test extends Checks {
    private static Book with(String... heads) {
        Book b = new Book();
        for (String head : heads) {
            b.entry(head, 1);
        }
        return b;
    }

    static void withoutEntriesThereIsNone() {
        due(NONE, new Book().order(0));
    }

    static void belowZeroThereIsNone() {
        Book b = with("b", "a");
        due(NONE, b.order(-1));
        due(NONE, b.order(LEAST));
    }

    static void behindTheLastThereIsNone() {
        Book b = with("b", "a");
        due(0, b.order(1));
        due(NONE, b.order(2));
        due(NONE, b.order(MOST));
    }

    static void oneThatBeginsAnotherIsAheadOfIt() {
        due("2 1 0", with("abc", "ab", "a").inOrder());
        due("0 1 2", with("a", "ab", "abc").inOrder());
    }

    static void anEarlierLetterOutweighsTheLength() {
        due("1 0", with("b", "azzzzzzzzzzz").inOrder());
        due("2 1 0", with("zz", "za", "yzzzzzzzzzzz").inOrder());
    }

    static void eachLetterOutweighsAllBehindIt() {
        for (int place = 0; place < 11; place++) {
            String same = "aaaaaaaaaaaa".substring(0, place);
            String high = same + "b" + "aaaaaaaaaaa".substring(place);
            String low = same + "a" + "ccccccccccc".substring(place);
            due("1 0", with(high, low).inOrder());
        }
    }

    static void theTwelfthLetterDecides() {
        due("2 1 0", with("aaaaaaaaaaab", "aaaaaaaaaaaa", "aaaaaaaaaaa").inOrder());
        due("1 0", with("zzzzzzzzzzzz", "zzzzzzzzzzzy").inOrder());
    }

    static void alikeOnesStandByNumber() {
        due("1 0 2 3", with("b", "a", "b", "b").inOrder());
    }

    static void alikeHeadsOfTwelveLettersStandByNumber() {
        due("0 1 2", with("zzzzzzzzzzzz", "zzzzzzzzzzzz", "zzzzzzzzzzzz").inOrder());
    }

    static void aSeeStandsAmongTheOthers() {
        Book b = with("a", "c");
        b.see("b", "a");
        b.see("a", "c");
        b.entry("a", 1);
        due("0 3 4 2 1", b.inOrder());
    }

    static void aDroppedOneIsPassedOver() {
        Book b = with("c", "b", "a");
        b.drop(1);
        due("2 0", b.inOrder());
        due(NONE, b.order(2));
        b.drop(2);
        b.drop(0);
        due(NONE, b.order(0));
    }

    static void oneThatComesAgainHasAHigherNumber() {
        Book b = with("a", "a", "b");
        b.drop(0);
        b.entry("a", 1);
        due("1 3 2", b.inOrder());
    }

    static void all150AreInOrder() {
        Book b = new Book();
        b.fill(149);
        b.see("aaa", "a");
        due(0, b.order(0));
        due(149, b.order(1));
        due(1, b.order(2));
        due(148, b.order(149));
        due(NONE, b.order(150));
    }

    public static void main(String[] args) {
        run(Promise08Test.class);
    }
}
