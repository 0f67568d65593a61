/** Promise 4, feed: "Twenty bytes come on the TAPE, of each number the highest first". */
public final class Promise04Test extends Checks {
    static void sixtyBytesAreTheMost() {
        Book b = new Book();
        due(20, b.feed(0, 0, 0, 0, 0));
        due(40, b.feed(0, 0, 0, 0, 0));
        due(60, b.feed(0, 0, 0, 0, 0));
        due(60, b.count(3));
    }

    static void moreThanSixtyAnswerNoneAndDoNothing() {
        Book b = new Book();
        b.feed("abcdefghijklmnopqrstuvwxyzabcdefghijklmnopqrstuvwxyzabcdefgh");
        due(NONE, b.feed("zzzzzzzzzzzzzzzzzzzz"));
        due(60, b.count(3));
        due(0, b.see(12, 12));
        due(1, b.entry("mnopqrstuvwx", 1));
        due(1, b.leads(0));
        due(2, b.see("z", "abcdefghijkl"));
        due(1, b.leads(2));
    }

    static void anEmptiedTapeTakesSixtyAgain() {
        Book b = new Book();
        for (int k = 0; k < 3; k++) {
            b.feed("");
        }
        b.see(0, 0);
        due(20, b.feed(""));
        due(40, b.feed(""));
        due(60, b.feed(""));
        due(NONE, b.feed(""));
    }

    static void ofEachNumberTheHighestByteIsFirst() {
        Book b = new Book();
        b.feed(0x61626364, 0, 0, 0, 0);
        b.push(1);
        due(0, b.entry(4));
        b.see("z", "abcd");
        due(0, b.leads(1));
    }

    static void theNumbersComeInTheirOrder() {
        Book b = new Book();
        b.feed(0x61616161, 0x62626262, 0x63636363, 0x64646464, 0x65656565);
        due(0, b.see(10, 10));
        b.entry("ccddddeeee", 1);
        due(1, b.leads(0));
        b.see("z", "aaaabbbbcc");
        due(1, b.leads(2));
    }

    static void theNextTwentyComeBehindThose() {
        Book b = new Book();
        due(20, b.feed("aaaaaaaaaaaaaaaaaaab"));
        due(40, b.feed("cdef"));
        due(0, b.see(12, 12));
        due(1, b.entry("aaaaaaabcdef", 1));
        due(1, b.leads(0));
    }

    static void bytesOver127AreNoLetters() {
        // 0xE1 is the letter a with the highest bit besides; as a signed byte it is -31.
        for (int number : new int[] {0xE1616161, 0xFF616161, 0x80616161, LEAST, -1}) {
            Book b = new Book();
            due(20, b.feed(number, 0, 0, 0, 0));
            b.push(1);
            due(-1, b.entry(1));
        }
    }

    static void lettersBehindSuchBytesAreRead() {
        Book b = new Book();
        b.feed(0x61FFFFFF, -1, -1, -1, -1);
        b.push(1);
        due(0, b.entry(1));
    }

    public static void main(String[] args) {
        run(Promise04Test.class);
    }
}
