/** Promise 6: strict. */
public final class StrictTest {
    public static void main(String[] args) {
        Sentences promise = new Sentences();
        promise.says("Makes a mock strict or not", StrictTest::makes);
        promise.says("Makes a mock strict or not (that mock alone)", StrictTest::thatMockAlone);
        promise.says("Answers 1 if it was strict, else 0", StrictTest::whatItWas);
        promise.says("REFUSED", StrictTest::refused);
        promise.says("Makes a mock strict or not (a reset leaves it so)", StrictTest::resetLeavesIt);
        promise.end();
    }

    private static void makes(Due due) {
        MockBook book = new MockBook();
        book.strict(1, true);
        due.is("call of a strict mock", book.call(1, 0, 0, 0, 0), 20000000000L);
        book.strict(1, true);
        due.is("call of a mock made strict twice", book.call(1, 0, 0, 0, 0), 20000000000L);
        book.strict(1, false);
        due.is("call of a mock no longer strict", book.call(1, 0, 0, 0, 0), 0);
        due.is("an earlier answer", book.answer(0), 20000000000L);
        book.matcher(1, 5);
        book.rule(0, 1);
        book.strict(0, true);
        due.is("call that has a rule without actions", book.call(0, 1, 5, 0, 0), 0);
        due.is("call that has no rule", book.call(0, 1, 6, 0, 0), 20000000000L);
    }

    private static void thatMockAlone(Due due) {
        for (int strict = 0; strict <= 3; strict++) {
            MockBook book = new MockBook();
            book.strict(strict, true);
            for (int mock = 0; mock <= 3; mock++) {
                due.is("strict(" + mock + ", false)", book.strict(mock, false), mock == strict ? 1 : 0);
            }
        }
    }

    private static void whatItWas(Due due) {
        for (int mock = 0; mock <= 3; mock++) {
            MockBook book = new MockBook();
            boolean[] on = {false, true, true, false, false, true};
            for (int i = 0; i < on.length; i++) {
                due.is("strict number " + i, book.strict(mock, on[i]), i > 0 && on[i - 1] ? 1 : 0);
            }
        }
    }

    private static void refused(Due due) {
        for (int mock : Books.outside(0, 3)) {
            State.allRefuse(due, "strict(" + mock + ", true)", book -> book.strict(mock, true), -1);
            State.allRefuse(due, "strict(" + mock + ", false)", book -> book.strict(mock, false), -1);
        }
    }

    /** The document names rules and interactions alone as what a reset ends. */
    private static void resetLeavesIt(Due due) {
        MockBook book = new MockBook();
        book.strict(0, true);
        book.rule(0, 0);
        book.reset(0);
        due.is("call after a reset", book.call(0, 0, 0, 0, 0), 20000000000L);
        due.is("strict after a reset", book.strict(0, true), 1);
    }
}
