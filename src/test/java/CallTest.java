/** Promise 7: call. How calls are noted and answered is looked at in TermsActionsTest and TermsCallsTest. */
public final class CallTest {
    public static void main(String[] args) {
        Sentences promise = new Sentences();
        promise.says("A call from outside", CallTest::fromOutside);
        promise.says("its answer", CallTest::itsAnswer);
        promise.says("Mock .. out of range", CallTest::wrongMocks);
        promise.says("or method out of range", CallTest::wrongMethods);
        promise.says("or 160 interactions were noted: NONE", CallTest::full);
        promise.says("160 interactions were noted (passed ones too)", CallTest::fullOfPassedOnes);
        promise.says("160 interactions were noted (live or not)", CallTest::fullAfterReset);
        promise.says("A call from outside (needs nothing of the buffer)", CallTest::theBufferStays);
        promise.end();
    }

    private static void fromOutside(Due due) {
        MockBook book = new MockBook();
        for (int i = 0; i < 32; i++) {
            book.call(i % 4, i / 4, 1, 2, 3);
            due.is("count(0)", book.count(0), i + 1);
            due.is("noted(" + i + ", 0)", book.noted(i, 0), i % 4);
            due.is("noted(" + i + ", 1)", book.noted(i, 1), i / 4);
            due.is("noted(" + i + ", 5)", book.noted(i, 5), 0);
            due.is("noted(" + i + ", 6)", book.noted(i, 6), -1);
        }
    }

    private static void itsAnswer(Due due) {
        MockBook book = Books.withAction(0, 3, 0, 4);
        book.then(0, 1, 2);
        book.then(0, 3, -6);
        book.then(0, 4, 29);
        book.strict(3, true);
        long[] answers = {4, 9, 39999999994L, 20000000000L, 20000000000L};
        for (long answer : answers) {
            due.is("call", book.call(0, 3, 7, 8, 9), answer);
        }
    }

    private static void wrongMocks(Due due) {
        for (int mock : Books.outside(0, 3)) {
            State.allRefuse(due, "call(" + mock + ", 0, ..)", book -> book.call(mock, 0, 1, 2, 3), 60000000000L);
            State.allRefuse(due, "call(" + mock + ", 7, ..)", book -> book.call(mock, 7, 1, 2, 3), 60000000000L);
        }
    }

    private static void wrongMethods(Due due) {
        for (int method : Books.outside(0, 7)) {
            State.allRefuse(due, "call(0, " + method + ", ..)", book -> book.call(0, method, 1, 2, 3), 60000000000L);
            State.allRefuse(due, "call(3, " + method + ", ..)", book -> book.call(3, method, 1, 2, 3), 60000000000L);
        }
    }

    private static void full(Due due) {
        for (int i = 0; i < 32; i++) {
            int mock = i / 8;
            int method = i % 8;
            State.FULL.refuses(due, "call of " + i, book -> book.call(mock, method, 3, 1, 1), 60000000000L);
        }
        MockBook book = Books.withAction(0, 0, 0, 3);
        for (int i = 0; i < 160; i++) {
            due.is("call when " + i + " were noted", book.call(0, 0, 0, 0, 0), 3);
        }
        due.is("call when 160 were noted", book.call(0, 0, 0, 0, 0), 60000000000L);
        due.is("count(0)", book.count(0), 160);
        due.is("uses", book.about(0, 1), 160);
    }

    private static void fullOfPassedOnes(Due due) {
        MockBook book = Books.withAction(0, 0, 4, 0);
        for (int i = 0; i < 40; i++) {
            due.is("call " + i, book.call(0, 0, 0, 0, 0), 20000000001L);
        }
        due.is("count(0)", book.count(0), 160);
        due.is("call when 160 were noted", book.call(1, 0, 0, 0, 0), 60000000000L);
        due.is("answer(160)", book.answer(160), 60000000000L);
    }

    private static void fullAfterReset(Due due) {
        MockBook book = new MockBook();
        Books.callOften(book, 160, 0, 0);
        book.reset(0);
        due.is("call when 160 were noted, none of them live", book.call(0, 0, 0, 0, 0), 60000000000L);
        due.is("count(0)", book.count(0), 160);
        due.is("count(1)", book.count(1), 0);
    }

    private static void theBufferStays(Due due) {
        MockBook book = new MockBook();
        book.matcher(1, 5);
        for (int method = 0; method <= 7; method++) {
            due.is("call of the method " + method, book.call(0, method, 5, 0, 0), 0);
            due.is("count(5)", book.count(5), 1);
        }
        due.is("verify by the buffer that stayed", book.verify(0, 1, 0, 1), 1);
    }
}
