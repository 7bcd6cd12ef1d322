/** Promise 13: reset. */
public final class ResetTest {
    public static void main(String[] args) {
        Sentences promise = new Sentences();
        promise.says("The mock's rules .. are no longer live", ResetTest::rulesEnd);
        promise.says("The mock's .. interactions are no longer live", ResetTest::interactionsEnd);
        promise.says("The mock's (and no other's)", ResetTest::theMocksAlone);
        promise.says("no longer live (and nothing else changes)", ResetTest::whatStays);
        promise.says("Answers how many interactions that were", ResetTest::howMany);
        promise.says("how many .. that were (none, or 160)", ResetTest::noneOrAll);
        promise.says("REFUSED", ResetTest::refused);
        promise.end();
    }

    private static void rulesEnd(Due due) {
        MockBook book = Books.withAction(0, 0, 0, 5);
        Books.ruleForAll(book, 0, 7);
        book.reset(0);
        due.is("about(0, 2)", book.about(0, 2), 0);
        due.is("about(1, 2)", book.about(1, 2), 0);
        due.is("count(3)", book.count(3), 2);
        due.is("count(4)", book.count(4), 0);
        due.is("call after a reset", book.call(0, 0, 0, 0, 0), 0);
        due.is("its rule", book.noted(0, 8), -1);
        due.is("then after a reset", book.then(0, 0, 0), -1);
        due.is("unused() after a reset", book.unused(), -10);
        due.is("a new rule's number", book.rule(0, 0), 2);
        due.is("it is live", book.about(2, 2), 1);
    }

    private static void interactionsEnd(Due due) {
        MockBook book = new MockBook();
        Books.callOften(book, 3, 1, 0);
        book.inOrder(1, 0);
        book.reset(1);
        for (int i = 0; i < 3; i++) {
            due.is("noted(" + i + ", 9)", book.noted(i, 9), 0);
        }
        due.is("count(0)", book.count(0), 3);
        due.is("count(1)", book.count(1), 0);
        due.is("count(2)", book.count(2), 0);
        due.is("open(1)", book.open(1), -10);
        due.is("verify(1, 0, 0, 0)", book.verify(1, 0, 0, 0), 0);
        due.is("inOrder(1, 0)", book.inOrder(1, 0), -10);
        book.call(1, 0, 0, 0, 0);
        due.is("noted(3, 9) of a later call", book.noted(3, 9), 1);
    }

    private static void theMocksAlone(Due due) {
        for (int reset = 0; reset <= 3; reset++) {
            MockBook book = new MockBook();
            for (int mock = 0; mock <= 3; mock++) {
                book.rule(mock, 0);
                book.call(mock, 0, 0, 0, 0);
            }
            book.reset(reset);
            for (int mock = 0; mock <= 3; mock++) {
                due.is("about(" + mock + ", 2)", book.about(mock, 2), mock == reset ? 0 : 1);
                due.is("noted(" + mock + ", 9)", book.noted(mock, 9), mock == reset ? 0 : 1);
            }
        }
        MockBook passing = Books.withAction(0, 0, 4, 8);
        passing.call(0, 0, 0, 0, 0);
        due.is("reset of the mock that passes", passing.reset(0), 1);
        due.is("noted(1, 9) of the passed call", passing.noted(1, 9), 1);
    }

    private static void whatStays(Due due) {
        MockBook book = Books.withAction(0, 0, 3, 6);
        book.strict(0, true);
        Books.callOften(book, 2, 0, 0);
        book.inOrder(0, 0);
        book.matcher(1, 4);
        book.call(1, 1, 4, 0, 0);
        book.call(1, 1, 5, 0, 0);
        book.reset(0);
        due.is("answer(1)", book.answer(1), 40000000006L);
        due.is("noted(0, 7)", book.noted(0, 7), 1);
        due.is("noted(1, 7)", book.noted(1, 7), 0);
        due.is("noted(1, 8)", book.noted(1, 8), 0);
        due.is("about(0, 0)", book.about(0, 0), 1);
        due.is("about(0, 1)", book.about(0, 1), 2);
        due.is("verify by the buffer", book.verify(1, 1, 0, 1), 1);
        due.is("rewind()", book.rewind(), 0);
        due.is("strict(0, false)", book.strict(0, false), 1);
    }

    private static void howMany(Due due) {
        MockBook book = new MockBook();
        for (int mock = 0; mock <= 3; mock++) {
            Books.callOften(book, mock + 1, mock, mock);
            book.rule(mock, 0);
        }
        book.verify(3, 4, 0, 0);
        for (int mock = 3; mock >= 0; mock--) {
            due.is("reset(" + mock + ")", book.reset(mock), mock + 1);
        }
        Books.callOften(book, 2, 0, 0);
        book.verify(0, 0, 0, 2);
        due.is("reset(0) of two verified ones", book.reset(0), 2);
    }

    private static void noneOrAll(Due due) {
        MockBook book = new MockBook();
        Books.rulesOften(book, 3, 0);
        due.is("reset(0) without interactions", book.reset(0), 0);
        Books.callOften(book, 160, 0, 0);
        due.is("reset(1) without interactions of its own", book.reset(1), 0);
        due.is("reset(0) of 160", book.reset(0), 160);
        due.is("reset(0) when none is live", book.reset(0), 0);
    }

    private static void refused(Due due) {
        for (int mock : Books.outside(0, 3)) {
            State.allRefuse(due, "reset(" + mock + ")", book -> book.reset(mock), -1);
        }
    }
}
