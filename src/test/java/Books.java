/** What several tests do with a book. No test uses one book for more than the 512 calls of the document. */
final class Books {
    static final int LEAST = Integer.MIN_VALUE;
    static final int GREATEST = Integer.MAX_VALUE;

    private Books() {
    }

    /** Numbers on both sides of a range: the nearest, some that a remainder would bring back into it, the farthest. */
    static int[] outside(int least, int greatest) {
        return new int[] {LEAST, least - 32, least - 4, least - 1, greatest + 1, greatest + 4, greatest + 32, GREATEST};
    }

    static void anyMatchers(MockBook book, int howMany) {
        for (int i = 0; i < howMany; i++) {
            book.matcher(0, 0);
        }
    }

    /** A rule for every call of the method. */
    static int ruleForAll(MockBook book, int mock, int method) {
        anyMatchers(book, method % 4);
        return book.rule(mock, method);
    }

    static void callOften(MockBook book, int times, int mock, int method) {
        for (int i = 0; i < times; i++) {
            book.call(mock, method, 0, 0, 0);
        }
    }

    static void rulesOften(MockBook book, int times, int mock) {
        for (int i = 0; i < times; i++) {
            book.rule(mock, 0);
        }
    }

    /** A book with one rule, for every call of the method, that has this one action. */
    static MockBook withAction(int mock, int method, int kind, int value) {
        MockBook book = new MockBook();
        book.then(ruleForAll(book, mock, method), kind, value);
        return book;
    }

    /** A book with this one interaction. */
    static MockBook withCall(int mock, int method, int a, int b, int c) {
        MockBook book = new MockBook();
        book.call(mock, method, a, b, c);
        return book;
    }
}
