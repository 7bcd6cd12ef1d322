/** Promise 14: noted. */
public final class NotedTest {
    public static void main(String[] args) {
        Due due = new Due();
        everyWhat(due);
        argumentsThatAreNotTaken(due);
        noSuchNumber(due);
        anotherWhat(due);
        due.end();
    }

    private static void all(Due due, MockBook book, int number, long[] want) {
        for (int what = 0; what <= 9; what++) {
            due.is("noted(" + number + ", " + what + ")", book.noted(number, what), want[what]);
        }
    }

    private static void everyWhat(Due due) {
        MockBook book = new MockBook();
        Books.ruleForAll(book, 1, 1);
        Books.ruleForAll(book, 3, 7);
        book.then(1, 4, 22);
        book.call(3, 7, Integer.MIN_VALUE, Integer.MAX_VALUE, -9);
        all(due, book, 0, new long[] {3, 7, Integer.MIN_VALUE, Integer.MAX_VALUE, -9, 0, -1, 0, 1, 1});
        all(due, book, 1, new long[] {2, 6, Integer.MIN_VALUE, Integer.MAX_VALUE, 0, 1, 0, 0, -1, 1});
        Books.anyMatchers(book, 2);
        book.verify(2, 6, 0, 1);
        book.reset(3);
        all(due, book, 0, new long[] {3, 7, Integer.MIN_VALUE, Integer.MAX_VALUE, -9, 0, -1, 0, 1, 0});
        all(due, book, 1, new long[] {2, 6, Integer.MIN_VALUE, Integer.MAX_VALUE, 0, 1, 0, 1, -1, 1});
        book.reset(2);
        all(due, book, 1, new long[] {2, 6, Integer.MIN_VALUE, Integer.MAX_VALUE, 0, 1, 0, 1, -1, 0});
    }

    private static void argumentsThatAreNotTaken(Due due) {
        MockBook book = new MockBook();
        for (int method = 0; method < 8; method++) {
            book.call(0, method, 11, 12, 13);
            for (int place = 0; place < 3; place++) {
                int want = place < method % 4 ? 11 + place : 0;
                due.is("argument " + place + " of method " + method, book.noted(method, 2 + place), want);
            }
        }
    }

    private static void noSuchNumber(Due due) {
        MockBook book = new MockBook();
        Books.callOften(book, 2, 0, 0);
        int[] numbers = {-1, 2, 159, 160, Integer.MIN_VALUE, Integer.MAX_VALUE};
        for (int number : numbers) {
            for (int what = -1; what <= 10; what++) {
                due.is("noted(" + number + ", " + what + ")", book.noted(number, what), MockBook.NONE);
            }
        }
    }

    private static void anotherWhat(Due due) {
        MockBook book = new MockBook();
        Books.callOften(book, 1, 0, 0);
        int[] whats = {-1, 10, Integer.MIN_VALUE, Integer.MAX_VALUE};
        for (int what : whats) {
            due.is("noted(0, " + what + ")", book.noted(0, what), MockBook.NONE);
        }
    }
}
