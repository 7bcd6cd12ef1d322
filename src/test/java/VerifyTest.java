/** Promise 8: verify. */
public final class VerifyTest {
    private static final int[] WANTED = {Books.LEAST, -10, -1, 0, 1, 2, 3, 4, 160, Books.GREATEST};

    /** Whether so many found should be held to be as wanted by n. */
    private interface Wanting {
        boolean of(int found, int n);
    }

    public static void main(String[] args) {
        Sentences promise = new Sentences();
        promise.says("Counts the live interactions", VerifyTest::liveOnes);
        promise.says("of the mock and method", VerifyTest::ofTheMethod);
        promise.says("that fit the buffer", VerifyTest::thatFit);
        promise.says("which is empty then", VerifyTest::emptyThen);
        promise.says("0 exactly n", due -> mode(due, 0, (found, n) -> found == n));
        promise.says("1 at least n", due -> mode(due, 1, (found, n) -> found >= n));
        promise.says("2 at most n of them", due -> mode(due, 2, (found, n) -> found <= n));
        promise.says("if that holds, they become verified", VerifyTest::becomeVerified);
        promise.says("and the answer is how many there are", VerifyTest::howMany);
        promise.says("else none does", VerifyTest::noneDoes);
        promise.says("and the answer is -10 - how many", VerifyTest::minusTenMinusHowMany);
        promise.says("Mock .. out of range: REFUSED", VerifyTest::wrongMocks);
        promise.says("or method out of range: REFUSED", VerifyTest::wrongMethods);
        promise.says("mode not 0 .. 2: REFUSED", VerifyTest::wrongModes);
        promise.says("The buffer doesn't suit: REFUSED", VerifyTest::unsuited);
        promise.end();
    }

    private static void liveOnes(Due due) {
        MockBook book = new MockBook();
        Books.callOften(book, 2, 0, 0);
        book.reset(0);
        due.is("verify after a reset", book.verify(0, 0, 0, 0), 0);
        Books.callOften(book, 1, 0, 0);
        due.is("verify of a later call", book.verify(0, 0, 0, 1), 1);
        due.is("noted(0, 7)", book.noted(0, 7), 0);
        due.is("noted(2, 7)", book.noted(2, 7), 1);
        due.is("verify of what is verified", book.verify(0, 0, 0, 1), 1);
    }

    private static void ofTheMethod(Due due) {
        MockBook book = new MockBook();
        for (int i = 0; i < 32; i++) {
            book.call(i / 8, i % 8, 0, 0, 0);
        }
        for (int i = 0; i < 32; i++) {
            Books.anyMatchers(book, i % 4);
            due.is("verify of " + i, book.verify(i / 8, i % 8, 0, 1), 1);
            due.is("noted(" + i + ", 7)", book.noted(i, 7), 1);
            due.is("count(2)", book.count(2), i + 1);
        }
        MockBook passing = Books.withAction(0, 0, 4, 8);
        Books.callOften(passing, 2, 0, 0);
        due.is("verify of calls that were passed", passing.verify(1, 0, 0, 2), 2);
    }

    private static void thatFit(Due due) {
        MockBook book = new MockBook();
        int[][] calls = {{0, 2, 5, 1}, {0, 2, 5, 2}, {0, 2, 6, 1}, {1, 2, 5, 1}, {0, 6, 5, 1}, {0, 2, 5, 1}};
        for (int[] call : calls) {
            book.call(call[0], call[1], call[2], call[3], 0);
        }
        book.matcher(1, 5);
        book.matcher(3, 2);
        due.is("verify(0, 2, 0, 2)", book.verify(0, 2, 0, 2), 2);
        int[] verified = {1, 0, 0, 0, 0, 1};
        for (int i = 0; i < verified.length; i++) {
            due.is("noted(" + i + ", 7)", book.noted(i, 7), verified[i]);
        }
    }

    private static void emptyThen(Due due) {
        for (int method = 1; method <= 3; method++) {
            MockBook book = new MockBook();
            Books.anyMatchers(book, method);
            due.is("verify that holds", book.verify(0, method, 0, 0), 0);
            due.is("count(5) then", book.count(5), 0);
            Books.anyMatchers(book, method);
            due.is("verify that doesn't hold", book.verify(0, method, 0, 1), -10);
            due.is("count(5) then", book.count(5), 0);
        }
    }

    private static void mode(Due due, int mode, Wanting wanting) {
        for (int made : new int[] {0, 1, 2, 3, 160}) {
            for (int n : WANTED) {
                MockBook book = new MockBook();
                Books.callOften(book, made, 2, 4);
                boolean holds = wanting.of(made, n);
                String what = "verify(2, 4, " + mode + ", " + n + ") of " + made;
                due.is(what, book.verify(2, 4, mode, n), holds ? made : -10 - made);
                due.is("count(2) after " + what, book.count(2), holds ? made : 0);
            }
        }
    }

    private static void becomeVerified(Due due) {
        for (int mode = 0; mode <= 2; mode++) {
            MockBook book = new MockBook();
            for (int i = 0; i < 8; i++) {
                book.call(1, 1, i, 0, 0);
            }
            book.matcher(5, 2);
            due.is("verify in mode " + mode, book.verify(1, 1, mode, 2), 2);
            for (int i = 0; i < 8; i++) {
                due.is("noted(" + i + ", 7)", book.noted(i, 7), i % 4 == 2 ? 1 : 0);
            }
            due.is("rewind(): the mark is left alone", book.rewind(), -1);
        }
    }

    private static void howMany(Due due) {
        MockBook book = new MockBook();
        due.is("verify of none", book.verify(0, 0, 0, 0), 0);
        for (int made = 1; made <= 160; made++) {
            book.call(0, 0, 0, 0, 0);
            due.is("verify of at least 0 of " + made, book.verify(0, 0, 1, 0), made);
            due.is("verify of at most 160 of " + made, book.verify(0, 0, 2, 160), made);
        }
    }

    private static void noneDoes(Due due) {
        for (int mode = 0; mode <= 2; mode++) {
            MockBook book = new MockBook();
            Books.callOften(book, 1, 0, 0);
            book.verify(0, 0, 0, 1);
            Books.callOften(book, 2, 0, 0);
            int n = mode == 1 ? 4 : 2;
            due.is("verify in mode " + mode, book.verify(0, 0, mode, n), -13);
            due.is("noted(0, 7): it was verified before", book.noted(0, 7), 1);
            due.is("noted(1, 7)", book.noted(1, 7), 0);
            due.is("noted(2, 7)", book.noted(2, 7), 0);
            due.is("open(0)", book.open(0), 1);
        }
    }

    private static void minusTenMinusHowMany(Due due) {
        MockBook book = new MockBook();
        due.is("verify of none", book.verify(0, 0, 1, 1), -10);
        for (int made = 1; made <= 160; made++) {
            book.call(0, 0, 0, 0, 0);
            due.is("verify of " + made, book.verify(0, 0, 2, made - 1), -10 - made);
        }
    }

    private static void wrongMocks(Due due) {
        for (int mock : Books.outside(0, 3)) {
            for (int method = 0; method <= 3; method++) {
                int tried = method;
                String what = "verify(" + mock + ", " + method + ", 1, 0)";
                State.allRefuse(due, what, book -> book.verify(mock, tried, 1, 0), -1);
            }
        }
    }

    private static void wrongMethods(Due due) {
        for (int method : Books.outside(0, 7)) {
            State.allRefuse(due, "verify(0, " + method + ", 1, 0)", book -> book.verify(0, method, 1, 0), -1);
            State.allRefuse(due, "verify(3, " + method + ", 1, 0)", book -> book.verify(3, method, 1, 0), -1);
        }
    }

    private static void wrongModes(Due due) {
        for (int mode : Books.outside(0, 2)) {
            for (int method = 0; method <= 3; method++) {
                int tried = method;
                String what = "verify(0, " + method + ", " + mode + ", 0)";
                State.allRefuse(due, what, book -> book.verify(0, tried, mode, 0), -1);
            }
        }
    }

    private static void unsuited(Due due) {
        for (State state : State.values()) {
            for (int method = 0; method <= 7; method++) {
                if (method % 4 != state.held) {
                    int tried = method;
                    state.refuses(due, "verify(0, " + method + ", 1, 0)", book -> book.verify(0, tried, 1, 0), -1);
                }
            }
        }
    }
}
