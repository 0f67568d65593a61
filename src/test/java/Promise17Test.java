/** Promise 17, count: "0 ENTRIES that are there, 1 in all, 2 SENSES pushed, 3 bytes of the TAPE". */
public final class Promise17Test extends Checks {
    static void belowZeroThereIsNone() {
        Book b = new Book();
        due(NONE, b.count(-1));
        due(NONE, b.count(LEAST));
    }

    static void overThreeThereIsNone() {
        Book b = new Book();
        due(NONE, b.count(4));
        due(NONE, b.count(MOST));
    }

    static void entriesThatAreThereAndInAll() {
        Book b = new Book();
        b.fill(3);
        due(3, b.count(0));
        b.drop(1);
        due(2, b.count(0));
        due(3, b.count(1));
        b.drop(1);
        due(2, b.count(0));
        b.drop(0);
        b.drop(2);
        due(0, b.count(0));
        due(3, b.count(1));
    }

    static void entriesAre150AtMost() {
        Book b = new Book();
        b.fill(150);
        b.see("a", "b");
        due(150, b.count(0));
        due(150, b.count(1));
    }

    static void sensesAreSixAtMost() {
        Book b = new Book();
        for (int k = 1; k <= 8; k++) {
            b.push(1);
            due(Math.min(k, 6), b.count(2));
        }
    }

    static void bytesAreSixtyAtMost() {
        Book b = new Book();
        for (int k = 1; k <= 5; k++) {
            b.feed("");
            due(Math.min(20 * k, 60), b.count(3));
        }
    }

    static void anEntryEmptiesBoth() {
        Book b = new Book();
        b.entry("a", 1, 2);
        due(0, b.count(2));
        due(0, b.count(3));
    }

    static void aSeeEmptiesTheTapeAlone() {
        Book b = new Book();
        b.push(1);
        b.see("a", "b");
        due(1, b.count(2));
        due(0, b.count(3));
    }

    static void settingLeavesAllCounts() {
        Book b = new Book();
        b.fill(2);
        b.push(1);
        b.feed("a");
        b.set();
        due(2, b.count(0));
        due(2, b.count(1));
        due(1, b.count(2));
        due(20, b.count(3));
    }

    public static void main(String[] args) {
        run(Promise17Test.class);
    }
}
