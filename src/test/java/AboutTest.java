/** Promise 16: about. */
public final class AboutTest {
    public static void main(String[] args) {
        Sentences promise = new Sentences();
        promise.says("How many actions (0) a rule made has", AboutTest::actions);
        promise.says("how often it was used (1)", AboutTest::uses);
        promise.says("1 if it is live else 0 (2)", AboutTest::live);
        promise.says("a rule made (live or not)", AboutTest::afterReset);
        promise.says("REFUSED for no such rule", AboutTest::noSuchRule);
        promise.says("or another what", AboutTest::anotherWhat);
        promise.end();
    }

    private static void actions(Due due) {
        MockBook book = new MockBook();
        Books.rulesOften(book, 24, 0);
        for (int i = 0; i < 4; i++) {
            due.is("about(23, 0)", book.about(23, 0), i);
            book.then(23, 0, i);
        }
        due.is("about(23, 0)", book.about(23, 0), 4);
        book.then(23, 0, 4);
        due.is("about(23, 0) after a fifth", book.about(23, 0), 4);
        due.is("about(0, 0)", book.about(0, 0), 0);
    }

    private static void uses(Due due) {
        MockBook book = Books.withAction(0, 0, 0, 1);
        book.rule(1, 0);
        for (int i = 0; i < 160; i++) {
            due.is("about(0, 1)", book.about(0, 1), i);
            book.call(0, 0, 0, 0, 0);
        }
        due.is("about(0, 1)", book.about(0, 1), 160);
        book.call(0, 0, 0, 0, 0);
        due.is("about(0, 1) after a refused call", book.about(0, 1), 160);
        due.is("about(1, 1)", book.about(1, 1), 0);
    }

    private static void live(Due due) {
        MockBook book = new MockBook();
        book.rule(0, 0);
        book.rule(1, 0);
        due.is("about(0, 2)", book.about(0, 2), 1);
        book.reset(0);
        due.is("about(0, 2) after a reset", book.about(0, 2), 0);
        due.is("about(1, 2) of another mock", book.about(1, 2), 1);
    }

    private static void afterReset(Due due) {
        MockBook book = Books.withAction(0, 0, 0, 1);
        book.then(0, 0, 2);
        Books.callOften(book, 5, 0, 0);
        book.reset(0);
        Books.callOften(book, 1, 0, 0);
        due.is("about(0, 0)", book.about(0, 0), 2);
        due.is("about(0, 1)", book.about(0, 1), 5);
        due.is("about(0, 2)", book.about(0, 2), 0);
    }

    private static void noSuchRule(Due due) {
        for (State state : State.values()) {
            for (int rule : Books.outside(0, state.rules - 1)) {
                for (int what = -1; what <= 3; what++) {
                    int tried = what;
                    state.refuses(due, "about(" + rule + ", " + what + ")", book -> book.about(rule, tried), -1);
                }
            }
        }
    }

    private static void anotherWhat(Due due) {
        for (int what : Books.outside(0, 2)) {
            State.allRefuse(due, "about(0, " + what + ")", book -> book.about(0, what), -1);
        }
    }
}
