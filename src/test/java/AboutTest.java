/** Promise 16: about. */
public final class AboutTest {
    public static void main(String[] args) {
        Due due = new Due();
        everyWhat(due);
        noSuchRule(due);
        anotherWhat(due);
        due.end();
    }

    private static void all(Due due, MockBook book, int rule, int actions, int uses, int live) {
        due.is("about(" + rule + ", 0)", book.about(rule, 0), actions);
        due.is("about(" + rule + ", 1)", book.about(rule, 1), uses);
        due.is("about(" + rule + ", 2)", book.about(rule, 2), live);
    }

    private static void everyWhat(Due due) {
        MockBook book = new MockBook();
        book.rule(0, 0);
        book.rule(1, 0);
        all(due, book, 0, 0, 0, 1);
        book.then(0, 0, 1);
        book.then(0, 0, 2);
        Books.callOften(book, 5, 0, 0);
        all(due, book, 0, 2, 5, 1);
        all(due, book, 1, 0, 0, 1);
        book.reset(0);
        all(due, book, 0, 2, 5, 0);
        all(due, book, 1, 0, 0, 1);
    }

    private static void noSuchRule(Due due) {
        MockBook book = new MockBook();
        book.rule(0, 0);
        int[] rules = {-1, 1, 24, Integer.MIN_VALUE, Integer.MAX_VALUE};
        for (int rule : rules) {
            for (int what = -1; what <= 3; what++) {
                due.is("about(" + rule + ", " + what + ")", book.about(rule, what), MockBook.REFUSED);
            }
        }
    }

    private static void anotherWhat(Due due) {
        MockBook book = new MockBook();
        book.rule(0, 0);
        int[] whats = {-1, 3, Integer.MIN_VALUE, Integer.MAX_VALUE};
        for (int what : whats) {
            due.is("about(0, " + what + ")", book.about(0, what), MockBook.REFUSED);
        }
    }
}
