/** Promise 13: reset. */
public final class ResetTest {
    public static void main(String[] args) {
        Due due = new Due();
        rulesAndInteractionsEnd(due);
        outOfRange(due);
        onlyThoseThatWereLive(due);
        whatStays(due);
        anEarlierRuleIsNotUsed(due);
        due.end();
    }

    private static void rulesAndInteractionsEnd(Due due) {
        for (int reset = 0; reset <= 3; reset++) {
            MockBook book = new MockBook();
            for (int mock = 0; mock <= 3; mock++) {
                book.rule(mock, 0);
                Books.callOften(book, mock + 1, mock, 0);
            }
            due.is("reset(" + reset + ")", book.reset(reset), reset + 1);
            due.is("count(0)", book.count(0), 10);
            due.is("count(1)", book.count(1), 9 - reset);
            due.is("count(3)", book.count(3), 4);
            due.is("count(4)", book.count(4), 3);
            for (int mock = 0; mock <= 3; mock++) {
                due.is("about(" + mock + ", 2)", book.about(mock, 2), mock == reset ? 0 : 1);
            }
            for (int i = 0; i < 10; i++) {
                due.is("noted(" + i + ", 9)", book.noted(i, 9), book.noted(i, 0) == reset ? 0 : 1);
            }
        }
    }

    private static void outOfRange(Due due) {
        MockBook book = new MockBook();
        book.rule(0, 0);
        Books.callOften(book, 2, 0, 0);
        int[] mocks = {-1, 4, Integer.MIN_VALUE, Integer.MAX_VALUE};
        for (int mock : mocks) {
            due.is("reset(" + mock + ")", book.reset(mock), MockBook.REFUSED);
        }
        due.is("count(1)", book.count(1), 2);
        due.is("count(4)", book.count(4), 1);
    }

    private static void onlyThoseThatWereLive(Due due) {
        MockBook book = new MockBook();
        Books.callOften(book, 2, 0, 0);
        due.is("first reset", book.reset(0), 2);
        due.is("second reset", book.reset(0), 0);
        Books.callOften(book, 1, 0, 0);
        due.is("third reset", book.reset(0), 1);
    }

    private static void whatStays(Due due) {
        MockBook book = new MockBook();
        book.rule(0, 0);
        book.then(0, 3, 6);
        book.strict(0, true);
        Books.callOften(book, 2, 0, 0);
        book.inOrder(0, 0);
        Books.anyMatchers(book, 2);
        book.reset(0);
        due.is("the buffer", book.count(5), 2);
        due.is("an answer", book.answer(1), MockBook.FAILED + 6);
        due.is("what was verified", book.noted(0, 7), 1);
        due.is("what was not verified", book.noted(1, 7), 0);
        due.is("an interaction's rule", book.noted(1, 8), 0);
        due.is("the rule's actions", book.about(0, 0), 1);
        due.is("the rule's uses", book.about(0, 1), 2);
        due.is("count(2): live ones alone", book.count(2), 0);
        due.is("the mark", book.rewind(), 0);
        due.is("strict", book.strict(0, false), 1);
    }

    private static void anEarlierRuleIsNotUsed(Due due) {
        MockBook book = new MockBook();
        book.rule(0, 0);
        book.then(0, 0, 5);
        book.reset(0);
        due.is("call after a reset", book.call(0, 0, 0, 0, 0), 0);
        due.is("its rule", book.noted(0, 8), -1);
        due.is("it is live", book.noted(0, 9), 1);
        due.is("a new rule's number", book.rule(0, 0), 1);
        book.then(1, 0, 6);
        due.is("call by the new rule", book.call(0, 0, 0, 0, 0), 6);
        due.is("uses of the old rule", book.about(0, 1), 0);
    }
}
