/** Promise 9: inOrder. */
public final class InOrderTest {
    public static void main(String[] args) {
        Due due = new Due();
        oneAfterAnother(due);
        onlyAboveTheMark(due);
        onlyWhatFits(due);
        notFound(due);
        refused(due);
        onlyLiveOnes(due);
        theMarkStaysAtAReset(due);
        verifiedOnesAreFoundToo(due);
        due.end();
    }

    private static void oneAfterAnother(Due due) {
        MockBook book = new MockBook();
        Books.callOften(book, 3, 1, 0);
        for (int i = 0; i < 3; i++) {
            due.is("inOrder", book.inOrder(1, 0), i);
            due.is("noted(" + i + ", 7)", book.noted(i, 7), 1);
            due.is("count(2)", book.count(2), i + 1);
        }
        due.is("inOrder after the last", book.inOrder(1, 0), -10);
        due.is("rewind(): the mark stayed", book.rewind(), 2);
        due.is("inOrder after rewind", book.inOrder(1, 0), 0);
    }

    private static void onlyAboveTheMark(Due due) {
        MockBook book = new MockBook();
        Books.callOften(book, 1, 0, 0);
        Books.callOften(book, 1, 1, 0);
        Books.callOften(book, 1, 2, 0);
        Books.callOften(book, 1, 0, 4);
        due.is("inOrder(1, 0)", book.inOrder(1, 0), 1);
        due.is("inOrder(0, 0), before the mark", book.inOrder(0, 0), -10);
        due.is("inOrder(1, 0), at the mark", book.inOrder(1, 0), -10);
        due.is("inOrder(0, 4)", book.inOrder(0, 4), 3);
        due.is("inOrder(2, 0), before the mark", book.inOrder(2, 0), -10);
        Books.callOften(book, 1, 2, 0);
        due.is("inOrder(2, 0), noted later", book.inOrder(2, 0), 4);
        due.is("open(2)", book.open(2), 2);
    }

    private static void onlyWhatFits(Due due) {
        MockBook book = new MockBook();
        for (int i = 0; i < 8; i++) {
            book.call(3, 3, i, i % 2, -i);
        }
        book.matcher(4, 1);
        book.matcher(1, 1);
        book.matcher(3, -4);
        due.is("inOrder by three matchers", book.inOrder(3, 3), 5);
        due.is("count(5) when found", book.count(5), 0);
        due.is("count(2)", book.count(2), 1);
    }

    private static void notFound(Due due) {
        MockBook book = new MockBook();
        book.call(0, 1, 1, 0, 0);
        book.matcher(1, 1);
        book.inOrder(0, 1);
        book.call(0, 1, 2, 0, 0);
        book.matcher(1, 3);
        due.is("inOrder that finds none", book.inOrder(0, 1), -10);
        due.is("count(5) when not found", book.count(5), 0);
        due.is("count(2) when not found", book.count(2), 1);
        due.is("rewind(): the mark stayed", book.rewind(), 0);
    }

    private static void refused(Due due) {
        MockBook book = new MockBook();
        book.call(0, 0, 0, 0, 0);
        int[][] wrong = {{-1, 0}, {4, 0}, {0, -1}, {0, 8}, {0, 1}, {0, 7}, {Integer.MIN_VALUE, 0},
            {0, Integer.MIN_VALUE}, {Integer.MAX_VALUE, 0}, {0, Integer.MAX_VALUE}};
        for (int[] w : wrong) {
            due.is("inOrder(" + w[0] + ", " + w[1] + ")", book.inOrder(w[0], w[1]), MockBook.REFUSED);
        }
        book.matcher(0, 0);
        due.is("inOrder(0, 0) with a matcher", book.inOrder(0, 0), MockBook.REFUSED);
        due.is("inOrder(4, 1) with a matcher", book.inOrder(4, 1), MockBook.REFUSED);
        due.is("count(5): the buffer stays", book.count(5), 1);
        due.is("count(2)", book.count(2), 0);
        due.is("rewind(): the mark stays", book.rewind(), -1);
    }

    private static void onlyLiveOnes(Due due) {
        MockBook book = new MockBook();
        Books.callOften(book, 2, 0, 0);
        book.reset(0);
        due.is("inOrder after a reset", book.inOrder(0, 0), -10);
        Books.callOften(book, 1, 0, 0);
        due.is("inOrder of a later call", book.inOrder(0, 0), 2);
    }

    private static void theMarkStaysAtAReset(Due due) {
        MockBook book = new MockBook();
        Books.callOften(book, 1, 1, 0);
        Books.callOften(book, 1, 0, 0);
        book.inOrder(0, 0);
        book.reset(0);
        due.is("inOrder(1, 0), before the mark", book.inOrder(1, 0), -10);
        due.is("rewind()", book.rewind(), 1);
    }

    private static void verifiedOnesAreFoundToo(Due due) {
        MockBook book = new MockBook();
        Books.callOften(book, 2, 0, 0);
        book.verify(0, 0, 0, 2);
        due.is("inOrder of a verified one", book.inOrder(0, 0), 0);
        due.is("count(2)", book.count(2), 2);
    }
}
