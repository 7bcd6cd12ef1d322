/** Promise 7 once more: calls that are passed on. */
public final class PassTest {
    public static void main(String[] args) {
        Due due = new Due();
        everyTarget(due);
        argumentsThatArePassed(due);
        answersComeBack(due);
        depthAndFrom(due);
        deepestCall(due);
        backToItsOwnRule(due);
        usesAcrossAPass(due);
        roomForThePassed(due);
        passedCallsAreInteractions(due);
        due.end();
    }

    private static void everyTarget(Due due) {
        for (int target = 0; target < 32; target++) {
            MockBook book = new MockBook();
            Books.ruleForAll(book, 1, 3);
            book.then(0, 4, target);
            if (target != 11) {
                Books.ruleForAll(book, target / 8, target % 8);
                book.then(1, 0, 500 + target);
                due.is("PASS to " + target, book.call(1, 3, 1, 2, 3), 500 + target);
                due.is("mock of the passed", book.noted(1, 0), target / 8);
                due.is("method of the passed", book.noted(1, 1), target % 8);
                due.is("count(0)", book.count(0), 2);
            }
        }
    }

    private static void argumentsThatArePassed(Due due) {
        for (int method = 0; method < 8; method++) {
            MockBook book = new MockBook();
            Books.ruleForAll(book, 0, 7);
            book.then(0, 4, 8 + method);
            book.call(0, 7, 41, 42, 43);
            for (int place = 0; place < 3; place++) {
                int want = place < method % 4 ? 41 + place : 0;
                due.is("argument " + place + " of method " + method, book.noted(1, 2 + place), want);
            }
        }
    }

    private static void answersComeBack(Due due) {
        MockBook book = new MockBook();
        book.rule(0, 0);
        book.then(0, 4, 8);
        due.is("of a mock that isn't strict", book.call(0, 0, 0, 0, 0), 0);
        book.strict(1, true);
        due.is("of a strict mock", book.call(0, 0, 0, 0, 0), MockBook.UNEXPECTED);
        due.is("answer of the call that passes", book.answer(2), MockBook.UNEXPECTED);
        due.is("answer of the passed call", book.answer(3), MockBook.UNEXPECTED);
        book.rule(1, 0);
        book.then(1, 3, -4);
        due.is("a failure", book.call(0, 0, 0, 0, 0), MockBook.FAILED - 4);
        due.is("answer of the call that passes", book.answer(4), MockBook.FAILED - 4);
        due.is("answer of the passed call", book.answer(5), MockBook.FAILED - 4);
        due.is("earlier answer of the call that passes", book.answer(0), 0);
    }

    private static void depthAndFrom(Due due) {
        MockBook book = new MockBook();
        book.rule(0, 0);
        book.then(0, 4, 8);
        book.rule(1, 0);
        book.then(1, 4, 16);
        book.call(3, 0, 0, 0, 0);
        book.call(0, 0, 0, 0, 0);
        book.call(1, 0, 0, 0, 0);
        long[][] depthFromRule = {{0, -1, -1}, {0, -1, 0}, {1, 1, 1}, {2, 2, -1}, {0, -1, 1}, {1, 4, -1}};
        due.is("count(0)", book.count(0), depthFromRule.length);
        for (int i = 0; i < depthFromRule.length; i++) {
            due.is("depth of " + i, book.noted(i, 5), depthFromRule[i][0]);
            due.is("from of " + i, book.noted(i, 6), depthFromRule[i][1]);
            due.is("rule of " + i, book.noted(i, 8), depthFromRule[i][2]);
        }
    }

    private static void deepestCall(Due due) {
        MockBook book = new MockBook();
        book.rule(0, 0);
        book.then(0, 4, 8);
        book.rule(1, 0);
        book.then(1, 4, 16);
        book.rule(2, 0);
        book.then(2, 4, 24);
        book.rule(3, 0);
        book.then(3, 0, 77);
        due.is("GIVE at depth 3", book.call(0, 0, 0, 0, 0), 77);
        due.is("count(0)", book.count(0), 4);
        book.rule(3, 0);
        book.then(4, 4, 4);
        due.is("PASS at depth 3", book.call(0, 0, 0, 0, 0), MockBook.TOO_DEEP);
        due.is("count(0): nothing more was noted", book.count(0), 8);
        due.is("uses of the rule whose PASS was too deep", book.about(4, 1), 1);
        for (int i = 4; i < 8; i++) {
            due.is("answer(" + i + ")", book.answer(i), MockBook.TOO_DEEP);
        }
        due.is("the same PASS at depth 0", book.call(3, 0, 0, 0, 0), 0);
    }

    private static void backToItsOwnRule(Due due) {
        MockBook book = new MockBook();
        book.rule(0, 0);
        book.then(0, 4, 0);
        book.then(0, 4, 0);
        book.then(0, 0, 33);
        due.is("two PASSes and a GIVE of one rule", book.call(0, 0, 0, 0, 0), 33);
        due.is("uses", book.about(0, 1), 3);
        due.is("count(0)", book.count(0), 3);
        due.is("the last action again", book.call(0, 0, 0, 0, 0), 33);
    }

    private static void usesAcrossAPass(Due due) {
        MockBook book = new MockBook();
        book.rule(0, 0);
        book.then(0, 4, 0);
        book.then(0, 2, 0);
        due.is("USES in the passed call", book.call(0, 0, 0, 0, 0), 1);
        due.is("USES later", book.call(0, 0, 0, 0, 0), 2);
    }

    private static void roomForThePassed(Due due) {
        MockBook book = new MockBook();
        Books.callOften(book, 158, 1, 0);
        book.rule(0, 0);
        book.then(0, 4, 8);
        due.is("PASS into the last place", book.call(0, 0, 0, 0, 0), 0);
        due.is("count(0)", book.count(0), 160);

        book = new MockBook();
        Books.callOften(book, 159, 1, 0);
        book.rule(0, 0);
        book.then(0, 4, 8);
        due.is("PASS without room", book.call(0, 0, 0, 0, 0), MockBook.TOO_DEEP);
        due.is("count(0)", book.count(0), 160);
        due.is("answer(159)", book.answer(159), MockBook.TOO_DEEP);
        due.is("uses", book.about(0, 1), 1);
        due.is("call without room", book.call(0, 0, 0, 0, 0), MockBook.NONE);
        due.is("uses after a refused call", book.about(0, 1), 1);
    }

    private static void passedCallsAreInteractions(Due due) {
        MockBook book = new MockBook();
        book.matcher(0, 0);
        book.rule(0, 1);
        book.then(0, 4, 25);
        book.call(0, 1, 6, 0, 0);
        due.is("open of the passed call's mock", book.open(3), 1);
        book.matcher(1, 6);
        due.is("verify of the passed call", book.verify(3, 1, 0, 1), 1);
        book.matcher(1, 6);
        due.is("inOrder of the passed call", book.inOrder(3, 1), 1);
        due.is("reset of the mock that passes", book.reset(0), 1);
        due.is("the passed call is live", book.noted(1, 9), 1);
    }
}
