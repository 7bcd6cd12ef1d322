/** Promise 14: noted. */
public final class NotedTest {
    public static void main(String[] args) {
        Sentences promise = new Sentences();
        promise.says("its mock (0), method (1)", NotedTest::mockAndMethod);
        promise.says("argument a (2), b (3), c (4)", NotedTest::arguments);
        promise.says("depth (5), from (6)", NotedTest::depthAndFrom);
        promise.says("1 if verified else 0 (7)", NotedTest::verified);
        promise.says("its rule's number or -1 (8)", NotedTest::ruleNumber);
        promise.says("1 if live else 0 (9)", NotedTest::live);
        promise.says("live or not", NotedTest::liveOrNot);
        promise.says("No such number", NotedTest::noSuchNumber);
        promise.says("or another what: NONE", NotedTest::anotherWhat);
        promise.end();
    }

    private static void mockAndMethod(Due due) {
        MockBook book = new MockBook();
        for (int i = 0; i < 32; i++) {
            book.call(i / 8, i % 8, 0, 0, 0);
        }
        for (int i = 0; i < 32; i++) {
            due.is("noted(" + i + ", 0)", book.noted(i, 0), i / 8);
            due.is("noted(" + i + ", 1)", book.noted(i, 1), i % 8);
        }
    }

    private static void arguments(Due due) {
        int[] numbers = {Books.LEAST, -1, 0, 1, Books.GREATEST};
        for (int number : numbers) {
            MockBook book = Books.withCall(0, 7, number, 22, -33);
            due.is("a", book.noted(0, 2), number);
            due.is("b", book.noted(0, 3), 22);
            due.is("c", book.noted(0, 4), -33);
            MockBook turned = Books.withCall(0, 3, 11, number, number);
            due.is("a", turned.noted(0, 2), 11);
            due.is("b", turned.noted(0, 3), number);
            due.is("c", turned.noted(0, 4), number);
        }
    }

    private static void depthAndFrom(Due due) {
        MockBook book = Books.withAction(0, 0, 4, 0);
        book.call(1, 0, 0, 0, 0);
        book.call(0, 0, 0, 0, 0);
        int[][] want = {{0, -1}, {0, -1}, {1, 1}, {2, 2}, {3, 3}};
        for (int i = 0; i < want.length; i++) {
            due.is("noted(" + i + ", 5)", book.noted(i, 5), want[i][0]);
            due.is("noted(" + i + ", 6)", book.noted(i, 6), want[i][1]);
        }
    }

    private static void verified(Due due) {
        MockBook book = new MockBook();
        Books.callOften(book, 2, 0, 0);
        due.is("noted(0, 7) at first", book.noted(0, 7), 0);
        book.inOrder(0, 0);
        due.is("noted(0, 7) after inOrder", book.noted(0, 7), 1);
        due.is("noted(1, 7) of the next", book.noted(1, 7), 0);
        book.verify(0, 0, 0, 2);
        due.is("noted(1, 7) after verify", book.noted(1, 7), 1);
    }

    private static void ruleNumber(Due due) {
        MockBook book = new MockBook();
        book.call(0, 0, 0, 0, 0);
        for (int rule = 0; rule < 24; rule++) {
            book.rule(0, 0);
            book.call(0, 0, 0, 0, 0);
        }
        for (int i = 0; i <= 24; i++) {
            due.is("noted(" + i + ", 8)", book.noted(i, 8), i - 1);
        }
        MockBook passing = Books.withAction(0, 0, 4, 8);
        passing.call(0, 0, 0, 0, 0);
        due.is("noted(1, 8) of a passed call without a rule", passing.noted(1, 8), -1);
        passing.rule(1, 0);
        passing.call(0, 0, 0, 0, 0);
        due.is("noted(3, 8) of a passed call with one", passing.noted(3, 8), 1);
    }

    private static void live(Due due) {
        MockBook book = Books.withCall(0, 0, 0, 0, 0);
        book.call(1, 0, 0, 0, 0);
        due.is("noted(0, 9)", book.noted(0, 9), 1);
        book.reset(0);
        due.is("noted(0, 9) after a reset", book.noted(0, 9), 0);
        due.is("noted(1, 9) of another mock", book.noted(1, 9), 1);
    }

    private static void liveOrNot(Due due) {
        MockBook book = Books.withAction(3, 7, 4, 22);
        book.call(3, 7, Books.LEAST, Books.GREATEST, -9);
        Books.anyMatchers(book, 2);
        book.verify(2, 6, 0, 1);
        book.reset(3);
        book.reset(2);
        long[][] want = {{3, 7, Books.LEAST, Books.GREATEST, -9, 0, -1, 0, 0, 0},
            {2, 6, Books.LEAST, Books.GREATEST, 0, 1, 0, 1, -1, 0}};
        for (int number = 0; number <= 1; number++) {
            for (int what = 0; what <= 9; what++) {
                due.is("noted(" + number + ", " + what + ")", book.noted(number, what), want[number][what]);
            }
        }
    }

    private static void noSuchNumber(Due due) {
        for (State state : State.values()) {
            for (int number : Books.outside(0, state.interactions - 1)) {
                for (int what : new int[] {0, 9, 10}) {
                    String call = "noted(" + number + ", " + what + ")";
                    state.refuses(due, call, book -> book.noted(number, what), 60000000000L);
                }
            }
        }
        MockBook book = new MockBook();
        Books.callOften(book, 160, 3, 0);
        due.is("noted(159, 0)", book.noted(159, 0), 3);
        due.is("noted(160, 0)", book.noted(160, 0), 60000000000L);
    }

    private static void anotherWhat(Due due) {
        for (int what : Books.outside(0, 9)) {
            State.allRefuse(due, "noted(0, " + what + ")", book -> book.noted(0, what), 60000000000L);
        }
    }
}
