/** Promise 4: rule. Which rule a call has is looked at in TermsRulesTest. */
public final class RuleTest {
    public static void main(String[] args) {
        Sentences promise = new Sentences();
        promise.says("Makes a rule for the mock and the method from the buffer", RuleTest::makes);
        promise.says("which is empty then", RuleTest::emptyThen);
        promise.says("answers its number", RuleTest::itsNumber);
        promise.says("Mock not 0 .. 3", RuleTest::wrongMocks);
        promise.says("method not 0 .. 7: REFUSED", RuleTest::wrongMethods);
        promise.says("The buffer doesn't suit the method: REFUSED", RuleTest::unsuited);
        promise.says("24 rules were made: FULL", RuleTest::full);
        promise.end();
    }

    private static void makes(Due due) {
        for (int method = 0; method <= 7; method++) {
            MockBook book = new MockBook();
            for (int i = 0; i < method % 4; i++) {
                book.matcher(1, 10 + i);
            }
            book.rule(3, method);
            due.is("count(3)", book.count(3), 1);
            due.is("about(0, 0)", book.about(0, 0), 0);
            due.is("about(0, 1)", book.about(0, 1), 0);
            due.is("about(0, 2)", book.about(0, 2), 1);
            book.call(3, method, 10, 11, 12);
            book.call(3, method, 0, 0, 0);
            due.is("rule of a call that fits", book.noted(0, 8), 0);
            due.is("rule of another call", book.noted(1, 8), method % 4 == 0 ? 0 : -1);
        }
    }

    private static void emptyThen(Due due) {
        for (int method = 0; method <= 7; method++) {
            MockBook book = new MockBook();
            Books.ruleForAll(book, 1, method);
            due.is("count(5) after rule(1, " + method + ")", book.count(5), 0);
            due.is("matcher after it", book.matcher(0, 0), 1);
        }
    }

    private static void itsNumber(Due due) {
        MockBook book = new MockBook();
        for (int i = 0; i < 24; i++) {
            due.is("rule " + i, Books.ruleForAll(book, i % 4, 7 - i % 8), i);
        }
        MockBook reset = new MockBook();
        reset.rule(0, 0);
        reset.reset(0);
        due.is("rule after a reset", reset.rule(0, 0), 1);
    }

    private static void wrongMocks(Due due) {
        for (int mock : Books.outside(0, 3)) {
            for (int method = 0; method <= 3; method++) {
                int tried = method;
                State.allRefuse(due, "rule(" + mock + ", " + method + ")", book -> book.rule(mock, tried), -1);
            }
        }
    }

    private static void wrongMethods(Due due) {
        for (int method : Books.outside(0, 7)) {
            State.allRefuse(due, "rule(0, " + method + ")", book -> book.rule(0, method), -1);
            State.allRefuse(due, "rule(3, " + method + ")", book -> book.rule(3, method), -1);
        }
    }

    private static void unsuited(Due due) {
        for (State state : State.values()) {
            for (int method = 0; method <= 7; method++) {
                if (method % 4 != state.held) {
                    int tried = method;
                    state.refuses(due, "rule(2, " + method + ")", book -> book.rule(2, tried), -1);
                }
            }
        }
    }

    private static void full(Due due) {
        State.FULL.refuses(due, "rule(0, 3)", book -> book.rule(0, 3), -2);
        State.FULL.refuses(due, "rule(3, 7)", book -> book.rule(3, 7), -2);
        MockBook book = new MockBook();
        Books.rulesOften(book, 23, 0);
        due.is("rule when 23 were made", book.rule(0, 0), 23);
        due.is("rule when 24 were made", book.rule(0, 0), -2);
        book.reset(0);
        due.is("rule when 24 were made, none of them live", book.rule(0, 0), -2);
        due.is("count(3)", book.count(3), 24);
    }
}
