/** Promise 8: verify. */
public final class VerifyTest {
    public static void main(String[] args) {
        Due due = new Due();
        modes(due);
        refused(due);
        theBufferIsEmptyThen(due);
        onlyWhatFits(due);
        failureVerifiesNone(due);
        onlyLiveOnes(due);
        verifiedOnesCountAgain(due);
        due.end();
    }

    private static boolean shouldHold(int mode, int found, int n) {
        return mode == 0 ? found == n : mode == 1 ? found >= n : found <= n;
    }

    private static void modes(Due due) {
        int[] wanted = {Integer.MIN_VALUE, -1, 0, 1, 2, 3, 4, Integer.MAX_VALUE};
        for (int made = 0; made <= 3; made++) {
            for (int mode = 0; mode <= 2; mode++) {
                for (int n : wanted) {
                    MockBook book = new MockBook();
                    Books.callOften(book, made, 2, 4);
                    boolean holds = shouldHold(mode, made, n);
                    String what = "verify(2, 4, " + mode + ", " + n + ") of " + made;
                    due.is(what, book.verify(2, 4, mode, n), holds ? made : -10 - made);
                    due.is("count(2) after " + what, book.count(2), holds ? made : 0);
                }
            }
        }
    }

    private static void refused(Due due) {
        MockBook book = new MockBook();
        book.call(0, 0, 0, 0, 0);
        int[][] wrong = {{-1, 0, 1}, {4, 0, 1}, {0, -1, 1}, {0, 8, 1}, {0, 0, -1}, {0, 0, 3},
            {0, 0, Integer.MIN_VALUE}, {0, 0, Integer.MAX_VALUE}, {Integer.MIN_VALUE, 0, 0}, {0, Integer.MAX_VALUE, 0},
            {0, 1, 1}, {0, 6, 1}, {0, 7, 1}};
        for (int[] w : wrong) {
            String what = "verify(" + w[0] + ", " + w[1] + ", " + w[2] + ", 0)";
            due.is(what, book.verify(w[0], w[1], w[2], 0), MockBook.REFUSED);
        }
        book.matcher(0, 0);
        due.is("verify(0, 0, 1, 0) with a matcher", book.verify(0, 0, 1, 0), MockBook.REFUSED);
        due.is("verify(0, 1, 3, 0) with a matcher", book.verify(0, 1, 3, 0), MockBook.REFUSED);
        due.is("count(5): the buffer stays", book.count(5), 1);
        due.is("count(2): none became verified", book.count(2), 0);
    }

    private static void theBufferIsEmptyThen(Due due) {
        MockBook book = new MockBook();
        Books.anyMatchers(book, 3);
        due.is("verify that holds", book.verify(0, 3, 0, 0), 0);
        due.is("count(5) then", book.count(5), 0);
        Books.anyMatchers(book, 2);
        due.is("verify that doesn't hold", book.verify(0, 2, 1, 1), -10);
        due.is("count(5) then", book.count(5), 0);
    }

    private static void onlyWhatFits(Due due) {
        MockBook book = new MockBook();
        int[][] calls = {{0, 2, 5, 1}, {0, 2, 5, 2}, {0, 2, 6, 1}, {1, 2, 5, 1}, {0, 6, 5, 1}, {0, 2, 5, 1}};
        for (int[] call : calls) {
            book.call(call[0], call[1], call[2], call[3], 0);
        }
        book.matcher(1, 5);
        book.matcher(3, 2);
        due.is("verify(0, 2, 0, 2)", book.verify(0, 2, 0, 2), 2);
        int[] verified = {1, 0, 0, 0, 0, 1};
        for (int i = 0; i < verified.length; i++) {
            due.is("noted(" + i + ", 7)", book.noted(i, 7), verified[i]);
        }
        due.is("count(2)", book.count(2), 2);
    }

    private static void failureVerifiesNone(Due due) {
        MockBook book = new MockBook();
        Books.callOften(book, 1, 0, 0);
        book.verify(0, 0, 0, 1);
        Books.callOften(book, 2, 0, 0);
        due.is("verify that doesn't hold", book.verify(0, 0, 2, 2), -13);
        due.is("one that was verified stays so", book.noted(0, 7), 1);
        due.is("count(2)", book.count(2), 1);
    }

    private static void onlyLiveOnes(Due due) {
        MockBook book = new MockBook();
        Books.callOften(book, 2, 0, 0);
        book.reset(0);
        Books.callOften(book, 1, 0, 0);
        due.is("verify after a reset", book.verify(0, 0, 0, 1), 1);
        due.is("noted(0, 7)", book.noted(0, 7), 0);
        due.is("noted(2, 7)", book.noted(2, 7), 1);
    }

    private static void verifiedOnesCountAgain(Due due) {
        MockBook book = new MockBook();
        Books.callOften(book, 3, 0, 0);
        due.is("first verify", book.verify(0, 0, 0, 3), 3);
        due.is("second verify", book.verify(0, 0, 0, 3), 3);
        due.is("rewind(): the mark is left alone", book.rewind(), -1);
    }
}
