/** Promise 17: count. */
public final class CountTest {
    public static void main(String[] args) {
        Due due = new Due();
        everyWhat(due);
        anotherWhat(due);
        due.end();
    }

    private static void all(Due due, MockBook book, int... want) {
        for (int what = 0; what <= 5; what++) {
            due.is("count(" + what + ")", book.count(what), want[what]);
        }
    }

    private static void everyWhat(Due due) {
        MockBook book = new MockBook();
        all(due, book, 0, 0, 0, 0, 0, 0);
        book.rule(0, 0);
        book.rule(0, 4);
        book.rule(1, 0);
        all(due, book, 0, 0, 0, 3, 3, 0);
        Books.callOften(book, 3, 0, 0);
        Books.callOften(book, 2, 1, 0);
        all(due, book, 5, 5, 0, 3, 3, 0);
        book.verify(0, 0, 0, 3);
        book.inOrder(1, 0);
        all(due, book, 5, 5, 4, 3, 3, 0);
        Books.anyMatchers(book, 2);
        all(due, book, 5, 5, 4, 3, 3, 2);
        book.reset(0);
        all(due, book, 5, 2, 1, 3, 1, 2);
        book.reset(1);
        all(due, book, 5, 0, 0, 3, 0, 2);
    }

    private static void anotherWhat(Due due) {
        MockBook book = new MockBook();
        int[] whats = {-1, 6, Integer.MIN_VALUE, Integer.MAX_VALUE};
        for (int what : whats) {
            due.is("count(" + what + ")", book.count(what), MockBook.REFUSED);
        }
    }
}
