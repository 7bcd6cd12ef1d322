/** Promise 6: strict. */
public final class StrictTest {
    public static void main(String[] args) {
        Due due = new Due();
        itAnswersWhatWas(due);
        outOfRange(due);
        callsWithoutARule(due);
        callsWithARule(due);
        resetLeavesIt(due);
        due.end();
    }

    private static void itAnswersWhatWas(Due due) {
        for (int mock = 0; mock <= 3; mock++) {
            MockBook book = new MockBook();
            due.is("strict true, first", book.strict(mock, true), 0);
            due.is("strict true, again", book.strict(mock, true), 1);
            due.is("strict false", book.strict(mock, false), 1);
            due.is("strict false, again", book.strict(mock, false), 0);
            due.is("strict true, at last", book.strict(mock, true), 0);
            for (int other = 0; other <= 3; other++) {
                due.is("strict of mock " + other, book.strict(other, false), other == mock ? 1 : 0);
            }
        }
    }

    private static void outOfRange(Due due) {
        MockBook book = new MockBook();
        int[] mocks = {-1, 4, Integer.MIN_VALUE, Integer.MAX_VALUE};
        for (int mock : mocks) {
            due.is("strict(" + mock + ", true)", book.strict(mock, true), MockBook.REFUSED);
            due.is("strict(" + mock + ", false)", book.strict(mock, false), MockBook.REFUSED);
        }
    }

    private static void callsWithoutARule(Due due) {
        MockBook book = new MockBook();
        book.strict(1, true);
        for (int method = 0; method < 8; method++) {
            due.is("call of a strict mock", book.call(1, method, 1, 2, 3), MockBook.UNEXPECTED);
            due.is("call of another mock", book.call(2, method, 1, 2, 3), 0);
        }
        due.is("count(0): such calls are noted", book.count(0), 16);
        due.is("answer(0)", book.answer(0), MockBook.UNEXPECTED);
        book.strict(1, false);
        due.is("call when no longer strict", book.call(1, 0, 0, 0, 0), 0);
        due.is("answer(0) stays", book.answer(0), MockBook.UNEXPECTED);
    }

    private static void callsWithARule(Due due) {
        MockBook book = new MockBook();
        book.strict(0, true);
        book.matcher(1, 5);
        book.rule(0, 1);
        due.is("call with a rule without actions", book.call(0, 1, 5, 0, 0), 0);
        due.is("call that the rule doesn't fit", book.call(0, 1, 6, 0, 0), MockBook.UNEXPECTED);
    }

    private static void resetLeavesIt(Due due) {
        MockBook book = new MockBook();
        book.strict(0, true);
        book.rule(0, 0);
        book.reset(0);
        due.is("call after a reset", book.call(0, 0, 0, 0, 0), MockBook.UNEXPECTED);
        due.is("strict after a reset", book.strict(0, true), 1);
    }
}
