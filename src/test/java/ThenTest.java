/** Promise 5: then. What the actions do is looked at in TermsActionsTest. */
public final class ThenTest {
    public static void main(String[] args) {
        Sentences promise = new Sentences();
        promise.says("Adds an action to a live rule", ThenTest::adds);
        promise.says("answers how many it has then", ThenTest::howMany);
        promise.says("No such rule was made", ThenTest::noSuchRule);
        promise.says("or it isn't live", ThenTest::notLive);
        promise.says("kind not 0 .. 4: REFUSED", ThenTest::wrongKinds);
        promise.says("kind not 0 .. 4 (the kinds 0, 2 and 3 with any value)", ThenTest::anyValue);
        promise.says("Kind 1: value not an argument that its method takes", ThenTest::arguments);
        promise.says("kind 4: value not 0 .. 31", ThenTest::wrongTargets);
        promise.says("or a method that takes more arguments than the rule's: REFUSED", ThenTest::greaterMethods);
        promise.says("It has 4: FULL", ThenTest::full);
        promise.end();
    }

    private static void adds(Due due) {
        MockBook book = new MockBook();
        Books.rulesOften(book, 24, 0);
        book.then(0, 0, 5);
        book.then(23, 0, 6);
        book.then(23, 0, 7);
        due.is("about(0, 0)", book.about(0, 0), 1);
        due.is("about(1, 0)", book.about(1, 0), 0);
        due.is("about(23, 0)", book.about(23, 0), 2);
        due.is("first call", book.call(0, 0, 0, 0, 0), 6);
        due.is("second call", book.call(0, 0, 0, 0, 0), 7);
    }

    private static void howMany(Due due) {
        MockBook book = new MockBook();
        Books.rulesOften(book, 2, 1);
        int[] kinds = {4, 0, 2, 3};
        for (int i = 0; i < 4; i++) {
            due.is("action of rule 1", book.then(1, kinds[i], i), i + 1);
            due.is("about(1, 0)", book.about(1, 0), i + 1);
        }
        due.is("action of rule 0", book.then(0, 0, 0), 1);
    }

    private static void noSuchRule(Due due) {
        for (State state : State.values()) {
            for (int rule : Books.outside(0, state.rules - 1)) {
                for (int kind = 0; kind <= 4; kind++) {
                    int tried = kind;
                    state.refuses(due, "then(" + rule + ", " + kind + ", 0)", book -> book.then(rule, tried, 0), -1);
                }
            }
        }
        MockBook book = new MockBook();
        book.rule(0, 0);
        due.is("then of a rule before it is made", book.then(1, 0, 0), -1);
        book.rule(0, 0);
        due.is("then of it later", book.then(1, 0, 0), 1);
    }

    private static void notLive(Due due) {
        for (int rule = 0; rule <= 3; rule++) {
            int tried = rule;
            State.RESET.refuses(due, "then(" + rule + ", 0, 0)", book -> book.then(tried, 0, 0), -1);
        }
        State.IN_USE.refuses(due, "then(3, 0, 0)", book -> book.then(3, 0, 0), -1);
        MockBook book = new MockBook();
        Books.rulesOften(book, 1, 0);
        Books.rulesOften(book, 1, 1);
        for (int i = 0; i < 4; i++) {
            book.then(0, 0, i);
        }
        book.reset(0);
        due.is("then of a rule that isn't live and has 4", book.then(0, 0, 0), -1);
        due.is("then of another mock's rule", book.then(1, 0, 0), 1);
        book.rule(0, 0);
        due.is("then of a later rule of the mock", book.then(2, 0, 0), 1);
        due.is("about(0, 0)", book.about(0, 0), 4);
    }

    private static void wrongKinds(Due due) {
        for (int kind : Books.outside(0, 4)) {
            State.allRefuse(due, "then(0, " + kind + ", 0)", book -> book.then(0, kind, 0), -1);
            State.IN_USE.refuses(due, "then(2, " + kind + ", 1)", book -> book.then(2, kind, 1), -1);
        }
    }

    private static void anyValue(Due due) {
        for (int kind : new int[] {0, 2, 3}) {
            for (int value : new int[] {Books.LEAST, -1, 0, 32, Books.GREATEST}) {
                MockBook book = new MockBook();
                book.rule(0, 0);
                due.is("then(0, " + kind + ", " + value + ")", book.then(0, kind, value), 1);
            }
        }
    }

    private static void arguments(Due due) {
        for (int method = 0; method <= 7; method++) {
            for (int value = -5; value <= 8; value++) {
                MockBook book = new MockBook();
                Books.ruleForAll(book, 0, method);
                int want = value >= 0 && value < method % 4 ? 1 : -1;
                due.is("then(0, 1, " + value + ") for the method " + method, book.then(0, 1, value), want);
                due.is("about(0, 0)", book.about(0, 0), Math.max(want, 0));
            }
        }
        for (int value : Books.outside(0, 2)) {
            State.IN_USE.refuses(due, "then(0, 1, " + value + ")", book -> book.then(0, 1, value), -1);
        }
        State.IN_USE.refuses(due, "then(2, 1, 0)", book -> book.then(2, 1, 0), -1);
    }

    private static void wrongTargets(Due due) {
        for (int value : Books.outside(0, 31)) {
            State.allRefuse(due, "then(0, 4, " + value + ")", book -> book.then(0, 4, value), -1);
            State.IN_USE.refuses(due, "then(2, 4, " + value + ")", book -> book.then(2, 4, value), -1);
        }
        for (int value = 0; value <= 31; value++) {
            MockBook book = new MockBook();
            Books.ruleForAll(book, 0, 3);
            due.is("then(0, 4, " + value + ") for the method 3", book.then(0, 4, value), 1);
        }
    }

    private static void greaterMethods(Due due) {
        for (int method = 0; method <= 7; method++) {
            for (int value = 0; value <= 31; value++) {
                MockBook book = new MockBook();
                Books.ruleForAll(book, 1, method);
                int want = value % 4 <= method % 4 ? 1 : -1;
                due.is("then(0, 4, " + value + ") for the method " + method, book.then(0, 4, value), want);
                due.is("about(0, 0)", book.about(0, 0), Math.max(want, 0));
            }
        }
        State.IN_USE.refuses(due, "then(1, 4, 2)", book -> book.then(1, 4, 2), -1);
        State.IN_USE.refuses(due, "then(2, 4, 31)", book -> book.then(2, 4, 31), -1);
    }

    private static void full(Due due) {
        for (int kind = 0; kind <= 4; kind++) {
            int tried = kind;
            State.FULL.refuses(due, "then(0, " + kind + ", 0)", book -> book.then(0, tried, 0), -2);
        }
        MockBook book = new MockBook();
        book.rule(0, 0);
        for (int i = 0; i < 3; i++) {
            book.then(0, 0, i);
        }
        due.is("then when it has 3", book.then(0, 0, 3), 4);
        due.is("then when it has 4", book.then(0, 0, 4), -2);
        due.is("a wrong argument when it has 4", book.then(0, 1, 0), -1);
        due.is("a wrong target when it has 4", book.then(0, 4, 32), -1);
        due.is("a greater method when it has 4", book.then(0, 4, 1), -1);
        due.is("about(0, 0)", book.about(0, 0), 4);
    }
}
