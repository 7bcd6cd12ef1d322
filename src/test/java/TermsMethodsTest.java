/** The terms: mocks, methods and the arguments that they take. */
public final class TermsMethodsTest {
    public static void main(String[] args) {
        Sentences terms = new Sentences();
        terms.says("MOCKS 0 .. 3", TermsMethodsTest::mocks);
        terms.says("METHODS 0 .. 7", TermsMethodsTest::methods);
        terms.says("the method m takes m % 4 arguments", TermsMethodsTest::argumentsTaken);
        terms.says("the first so many of a, b, c", TermsMethodsTest::theFirstOnes);
        terms.end();
    }

    private static void mocks(Due due) {
        for (int mock = 0; mock <= 3; mock++) {
            usable(due, mock, 0);
        }
        for (int mock : Books.outside(0, 3)) {
            unusable(due, mock, 0);
            MockBook book = Books.withCall(0, 0, 0, 0, 0);
            due.is("strict(" + mock + ", true)", book.strict(mock, true), -1);
            due.is("open(" + mock + ")", book.open(mock), -1);
            due.is("reset(" + mock + ")", book.reset(mock), -1);
        }
    }

    private static void methods(Due due) {
        for (int method = 0; method <= 7; method++) {
            for (int mock = 0; mock <= 3; mock++) {
                usable(due, mock, method);
            }
        }
        for (int method : Books.outside(0, 7)) {
            for (int mock = 0; mock <= 3; mock++) {
                unusable(due, mock, method);
            }
        }
    }

    private static void usable(Due due, int mock, int method) {
        MockBook book = new MockBook();
        String place = "(" + mock + ", " + method + ", ..)";
        Books.anyMatchers(book, method % 4);
        due.is("rule" + place, book.rule(mock, method), 0);
        book.then(0, 0, 55);
        due.is("call" + place, book.call(mock, method, 1, 2, 3), 55);
        Books.anyMatchers(book, method % 4);
        due.is("verify" + place, book.verify(mock, method, 0, 1), 1);
        Books.anyMatchers(book, method % 4);
        due.is("inOrder" + place, book.inOrder(mock, method), 0);
    }

    /** With any number of matchers in the buffer, so that it isn't the buffer that is refused. */
    private static void unusable(Due due, int mock, int method) {
        String place = "(" + mock + ", " + method + ", ..)";
        for (int held = 0; held <= 3; held++) {
            MockBook book = Books.withCall(0, 0, 0, 0, 0);
            Books.anyMatchers(book, held);
            due.is("rule" + place, book.rule(mock, method), -1);
            due.is("call" + place, book.call(mock, method, 1, 2, 3), 60000000000L);
            due.is("verify" + place, book.verify(mock, method, 1, 0), -1);
            due.is("inOrder" + place, book.inOrder(mock, method), -1);
            due.is("interactions after call" + place, book.count(0), 1);
        }
    }

    private static void argumentsTaken(Due due) {
        int[] taken = {0, 1, 2, 3, 0, 1, 2, 3};
        for (int method = 0; method <= 7; method++) {
            for (int held = 0; held <= 3; held++) {
                MockBook book = new MockBook();
                Books.anyMatchers(book, held);
                int want = held == taken[method] ? 0 : -1;
                due.is("rule(1, " + method + ") by " + held + " matchers", book.rule(1, method), want);
            }
        }
    }

    private static void theFirstOnes(Due due) {
        int[][] noted = {{0, 0, 0}, {7, 0, 0}, {7, 8, 0}, {7, 8, 9}};
        for (int method = 0; method <= 7; method++) {
            MockBook book = Books.withCall(2, method, 7, 8, 9);
            for (int place = 0; place <= 2; place++) {
                String what = "argument " + place + " of the method " + method;
                due.is(what, book.noted(0, 2 + place), noted[method % 4][place]);
            }
        }
    }
}
