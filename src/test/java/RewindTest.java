/** Promise 10: rewind. */
public final class RewindTest {
    public static void main(String[] args) {
        Sentences promise = new Sentences();
        promise.says("The mark is -1 from now on", RewindTest::fromNowOn);
        promise.says("answers what it was", RewindTest::whatItWas);
        promise.says("answers what it was (-1 when there was none)", RewindTest::noMark);
        promise.says("The mark is -1 (and nothing else changes)", RewindTest::nothingElse);
        promise.end();
    }

    private static void fromNowOn(Due due) {
        MockBook book = new MockBook();
        Books.callOften(book, 2, 2, 0);
        book.inOrder(2, 0);
        book.inOrder(2, 0);
        book.rewind();
        due.is("inOrder after rewind", book.inOrder(2, 0), 0);
        book.rewind();
        due.is("rewind() again", book.rewind(), -1);
    }

    private static void whatItWas(Due due) {
        for (int mark = 0; mark < 160; mark++) {
            MockBook book = new MockBook();
            Books.callOften(book, mark, 0, 0);
            book.call(1, 0, 0, 0, 0);
            book.inOrder(1, 0);
            due.is("rewind() at " + mark, book.rewind(), mark);
            due.is("rewind() again", book.rewind(), -1);
        }
    }

    private static void noMark(Due due) {
        due.is("rewind() of a new book", new MockBook().rewind(), -1);
        MockBook book = Books.withCall(0, 0, 0, 0, 0);
        book.verify(0, 0, 0, 1);
        due.is("rewind() after verify", book.rewind(), -1);
        book.inOrder(1, 0);
        due.is("rewind() after an inOrder that found none", book.rewind(), -1);
    }

    private static void nothingElse(Due due) {
        String rewound = Look.at(() -> {
            MockBook book = marked();
            book.rewind();
            return book;
        });
        due.holds("a book looking the same but for the mark",
            Look.at(RewindTest::marked).replace("rewind 1\n", "rewind -1\n").equals(rewound));
    }

    private static MockBook marked() {
        MockBook book = Books.withAction(0, 0, 0, 5);
        Books.callOften(book, 3, 0, 0);
        book.strict(1, true);
        book.inOrder(0, 0);
        book.inOrder(0, 0);
        Books.anyMatchers(book, 2);
        return book;
    }
}
