/** Promise 9: inOrder. */
public final class InOrderTest {
    public static void main(String[] args) {
        Sentences promise = new Sentences();
        promise.says("Looks for the live interaction", InOrderTest::liveOnes);
        promise.says("of the mock and method", InOrderTest::ofTheMethod);
        promise.says("with the least number above the mark", InOrderTest::aboveTheMark);
        promise.says("that fits the buffer", InOrderTest::thatFits);
        promise.says("which is empty then, found or not", InOrderTest::emptyThen);
        promise.says("If there is one, it becomes verified", InOrderTest::becomesVerified);
        promise.says("and the mark is its number, which is the answer", InOrderTest::theMarkIsItsNumber);
        promise.says("the mark is its number (up to 159)", InOrderTest::upToTheLast);
        promise.says("else -10", InOrderTest::noneFound);
        promise.says("and the mark stays", InOrderTest::theMarkStays);
        promise.says("Out of range (mocks): REFUSED", InOrderTest::wrongMocks);
        promise.says("Out of range (methods): REFUSED", InOrderTest::wrongMethods);
        promise.says("or not suiting: REFUSED", InOrderTest::unsuited);
        promise.end();
    }

    private static void liveOnes(Due due) {
        MockBook book = new MockBook();
        Books.callOften(book, 2, 0, 0);
        book.reset(0);
        due.is("inOrder after a reset", book.inOrder(0, 0), -10);
        due.is("noted(0, 7)", book.noted(0, 7), 0);
        Books.callOften(book, 1, 0, 0);
        due.is("inOrder of a later call", book.inOrder(0, 0), 2);
        book.rewind();
        due.is("inOrder of one that is verified", book.inOrder(0, 0), 2);
    }

    private static void ofTheMethod(Due due) {
        for (int i = 0; i < 32; i++) {
            MockBook book = new MockBook();
            for (int j = 0; j < 32; j++) {
                book.call(j / 8, j % 8, 0, 0, 0);
            }
            Books.anyMatchers(book, i % 4);
            due.is("inOrder of " + i, book.inOrder(i / 8, i % 8), i);
        }
        MockBook passing = Books.withAction(0, 0, 4, 8);
        Books.callOften(passing, 1, 0, 0);
        due.is("inOrder of a call that was passed", passing.inOrder(1, 0), 1);
    }

    private static void aboveTheMark(Due due) {
        MockBook book = new MockBook();
        int[][] calls = {{0, 0}, {1, 0}, {2, 0}, {0, 4}, {0, 4}};
        for (int[] call : calls) {
            book.call(call[0], call[1], 0, 0, 0);
        }
        due.is("inOrder(1, 0)", book.inOrder(1, 0), 1);
        due.is("inOrder(0, 0), below the mark", book.inOrder(0, 0), -10);
        due.is("inOrder(1, 0), at the mark", book.inOrder(1, 0), -10);
        due.is("inOrder(0, 4), the first of two", book.inOrder(0, 4), 3);
        due.is("inOrder(2, 0), below the mark", book.inOrder(2, 0), -10);
        book.call(2, 0, 0, 0, 0);
        due.is("inOrder(2, 0), noted later", book.inOrder(2, 0), 5);
    }

    private static void thatFits(Due due) {
        MockBook book = new MockBook();
        for (int i = 0; i < 8; i++) {
            book.call(3, 3, i, i % 2, -i);
        }
        book.matcher(4, 1);
        book.matcher(1, 1);
        book.matcher(3, -4);
        due.is("inOrder by three matchers", book.inOrder(3, 3), 5);
        book.matcher(4, 1);
        book.matcher(1, 0);
        book.matcher(3, -4);
        due.is("inOrder by three others", book.inOrder(3, 3), 6);
        due.is("count(2)", book.count(2), 2);
    }

    private static void emptyThen(Due due) {
        for (int method = 1; method <= 3; method++) {
            MockBook book = Books.withCall(0, method, 0, 0, 0);
            Books.anyMatchers(book, method);
            due.is("inOrder that finds one", book.inOrder(0, method), 0);
            due.is("count(5) when found", book.count(5), 0);
            Books.anyMatchers(book, method);
            due.is("inOrder that finds none", book.inOrder(0, method), -10);
            due.is("count(5) when not found", book.count(5), 0);
        }
    }

    private static void becomesVerified(Due due) {
        MockBook book = new MockBook();
        Books.callOften(book, 5, 1, 0);
        for (int i = 0; i < 5; i++) {
            book.inOrder(1, 0);
            due.is("noted(" + i + ", 7)", book.noted(i, 7), 1);
            due.is("count(2): it alone", book.count(2), i + 1);
        }
        book.rewind();
        book.inOrder(1, 0);
        due.is("count(2) after one more", book.count(2), 5);
    }

    private static void theMarkIsItsNumber(Due due) {
        MockBook book = new MockBook();
        Books.callOften(book, 3, 0, 0);
        Books.callOften(book, 2, 1, 0);
        due.is("inOrder(1, 0)", book.inOrder(1, 0), 3);
        due.is("rewind()", book.rewind(), 3);
        due.is("inOrder(0, 0)", book.inOrder(0, 0), 0);
        due.is("inOrder(0, 0) again", book.inOrder(0, 0), 1);
        due.is("rewind()", book.rewind(), 1);
    }

    private static void upToTheLast(Due due) {
        MockBook book = new MockBook();
        Books.callOften(book, 160, 2, 4);
        for (int i = 0; i < 160; i++) {
            due.is("inOrder number " + i, book.inOrder(2, 4), i);
        }
        due.is("inOrder after the last", book.inOrder(2, 4), -10);
        due.is("rewind()", book.rewind(), 159);
    }

    private static void noneFound(Due due) {
        due.is("inOrder of a new book", new MockBook().inOrder(0, 0), -10);
        MockBook book = Books.withCall(0, 1, 2, 0, 0);
        book.matcher(1, 3);
        due.is("inOrder that finds none", book.inOrder(0, 1), -10);
        due.is("count(2)", book.count(2), 0);
        due.is("open(0)", book.open(0), 0);
    }

    private static void theMarkStays(Due due) {
        MockBook book = new MockBook();
        due.is("inOrder of none", book.inOrder(0, 0), -10);
        due.is("rewind(): it was -1", book.rewind(), -1);
        Books.callOften(book, 2, 0, 0);
        Books.callOften(book, 1, 1, 0);
        book.inOrder(0, 0);
        book.inOrder(0, 0);
        due.is("inOrder of none above 1", book.inOrder(0, 0), -10);
        due.is("inOrder(1, 0): the mark was still 1", book.inOrder(1, 0), 2);
        due.is("inOrder of none above 2", book.inOrder(0, 0), -10);
        book.reset(0);
        book.reset(1);
        due.is("rewind(): a reset leaves it too", book.rewind(), 2);
    }

    private static void wrongMocks(Due due) {
        for (int mock : Books.outside(0, 3)) {
            for (int method = 0; method <= 3; method++) {
                int tried = method;
                State.allRefuse(due, "inOrder(" + mock + ", " + method + ")", book -> book.inOrder(mock, tried), -1);
            }
        }
    }

    private static void wrongMethods(Due due) {
        for (int method : Books.outside(0, 7)) {
            State.allRefuse(due, "inOrder(0, " + method + ")", book -> book.inOrder(0, method), -1);
            State.allRefuse(due, "inOrder(3, " + method + ")", book -> book.inOrder(3, method), -1);
        }
    }

    private static void unsuited(Due due) {
        for (State state : State.values()) {
            for (int method = 0; method <= 7; method++) {
                if (method % 4 != state.held) {
                    int tried = method;
                    state.refuses(due, "inOrder(0, " + method + ")", book -> book.inOrder(0, tried), -1);
                }
            }
        }
    }
}
