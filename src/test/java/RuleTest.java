/** Promise 4: rule, and which rule a call has. */
public final class RuleTest {
    public static void main(String[] args) {
        Due due = new Due();
        numbersGoUp(due);
        theBufferMustSuit(due);
        outOfRange(due);
        atMost24(due);
        fullLeavesTheBuffer(due);
        theGreatestFittingRule(due);
        onlyItsMockAndMethod(due);
        theBufferIsTheRulesOwn(due);
        due.end();
    }

    private static void numbersGoUp(Due due) {
        MockBook book = new MockBook();
        for (int method = 0; method < 8; method++) {
            Books.anyMatchers(book, method % 4);
            due.is("rule(3, " + method + ")", book.rule(3, method), method);
            due.is("count(5) after rule", book.count(5), 0);
            due.is("about(" + method + ", 0)", book.about(method, 0), 0);
            due.is("about(" + method + ", 1)", book.about(method, 1), 0);
            due.is("about(" + method + ", 2)", book.about(method, 2), 1);
        }
        due.is("count(3)", book.count(3), 8);
    }

    private static void theBufferMustSuit(Due due) {
        for (int held = 0; held <= 3; held++) {
            for (int method = 0; method < 8; method++) {
                MockBook book = new MockBook();
                Books.anyMatchers(book, held);
                boolean suits = method % 4 == held;
                due.is("rule(0, " + method + ") with " + held, book.rule(0, method), suits ? 0 : MockBook.REFUSED);
                due.is("count(5) then", book.count(5), suits ? 0 : held);
                due.is("count(3) then", book.count(3), suits ? 1 : 0);
            }
        }
    }

    private static void outOfRange(Due due) {
        MockBook book = new MockBook();
        int[][] wrong = {{-1, 0}, {4, 0}, {0, -1}, {0, -4}, {0, 8}, {Integer.MIN_VALUE, 0}, {Integer.MAX_VALUE, 0},
            {0, Integer.MIN_VALUE}, {0, Integer.MAX_VALUE}};
        for (int[] place : wrong) {
            due.is("rule(" + place[0] + ", " + place[1] + ")", book.rule(place[0], place[1]), MockBook.REFUSED);
        }
        due.is("count(3) after refused rules", book.count(3), 0);
    }

    private static void atMost24(Due due) {
        MockBook book = new MockBook();
        for (int i = 0; i < 24; i++) {
            due.is("rule " + i, book.rule(i % 4, 0), i);
        }
        due.is("rule 24", book.rule(0, 0), MockBook.FULL);
        due.is("rule out of range when full", book.rule(4, 0), MockBook.REFUSED);
        due.is("rule that doesn't suit when full", book.rule(0, 1), MockBook.REFUSED);
        book.reset(0);
        due.is("rule 24 after a reset", book.rule(0, 0), MockBook.FULL);
        due.is("count(3) when full", book.count(3), 24);
    }

    private static void fullLeavesTheBuffer(Due due) {
        MockBook book = new MockBook();
        for (int i = 0; i < 24; i++) {
            book.rule(0, 0);
        }
        book.call(1, 2, 3, 4, 0);
        book.call(1, 2, 3, 5, 0);
        book.matcher(1, 3);
        book.matcher(1, 4);
        due.is("rule(1, 2) when full", book.rule(1, 2), MockBook.FULL);
        due.is("count(5) after FULL", book.count(5), 2);
        due.is("verify by the buffer that stayed", book.verify(1, 2, 0, 1), 1);
    }

    private static void theGreatestFittingRule(Due due) {
        MockBook book = new MockBook();
        int[][] matchers = {{0, 0}, {4, 10}, {4, 20}, {1, 15}};
        for (int i = 0; i < matchers.length; i++) {
            book.matcher(matchers[i][0], matchers[i][1]);
            book.then(book.rule(1, 5), 0, 100 + i);
        }
        due.is("call that fits rule 0 alone", book.call(1, 5, 10, 0, 0), 100);
        due.is("call that fits rules 0 and 1", book.call(1, 5, 11, 0, 0), 101);
        due.is("call that fits rules 0, 1 and 2", book.call(1, 5, 21, 0, 0), 102);
        due.is("call that fits rules 0, 1 and 3", book.call(1, 5, 15, 0, 0), 103);
    }

    private static void onlyItsMockAndMethod(Due due) {
        MockBook book = new MockBook();
        book.then(book.rule(1, 4), 0, 9);
        due.is("call of the same method of another mock", book.call(0, 4, 0, 0, 0), 0);
        due.is("call of another method of the same mock", book.call(1, 0, 0, 0, 0), 0);
        due.is("call of the rule's method", book.call(1, 4, 0, 0, 0), 9);
    }

    private static void theBufferIsTheRulesOwn(Due due) {
        MockBook book = new MockBook();
        book.matcher(1, 7);
        book.then(book.rule(0, 1), 0, 70);
        book.matcher(1, 8);
        due.is("call after another matcher", book.call(0, 1, 7, 0, 0), 70);
        book.then(book.rule(0, 1), 0, 80);
        book.drop();
        due.is("call by the first rule", book.call(0, 1, 7, 0, 0), 70);
        due.is("call by the second rule", book.call(0, 1, 8, 0, 0), 80);
    }
}
