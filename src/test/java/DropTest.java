/** Promise 3: drop. */
public final class DropTest {
    public static void main(String[] args) {
        Sentences promise = new Sentences();
        promise.says("Empties the buffer", DropTest::emptiesTheBuffer);
        promise.says("Empties the buffer (that is empty)", DropTest::emptyAlready);
        promise.says("Empties the buffer (which has room for 3 again)", DropTest::roomAgain);
        promise.says("Empties the buffer (and nothing else)", DropTest::nothingElse);
        promise.end();
    }

    private static void emptiesTheBuffer(Due due) {
        for (int held = 1; held <= 3; held++) {
            MockBook book = new MockBook();
            Books.anyMatchers(book, held);
            book.drop();
            due.is("count(5) after drop of " + held, book.count(5), 0);
            due.is("rule(0, 0) after drop of " + held, book.rule(0, 0), 0);
        }
    }

    private static void emptyAlready(Due due) {
        MockBook book = new MockBook();
        book.drop();
        due.is("count(5) after drop of none", book.count(5), 0);
        book.matcher(0, 0);
        book.drop();
        book.drop();
        due.is("count(5) after two drops", book.count(5), 0);
    }

    private static void roomAgain(Due due) {
        MockBook book = new MockBook();
        Books.anyMatchers(book, 3);
        book.drop();
        for (int held = 1; held <= 3; held++) {
            due.is("matcher after drop", book.matcher(1, 80 + held), held);
        }
        due.is("fourth matcher after drop", book.matcher(0, 0), -2);
        book.call(0, 3, 0, 0, 0);
        book.call(0, 3, 81, 82, 83);
        due.is("verify by the matchers after drop", book.verify(0, 3, 0, 1), 1);
    }

    /** A book that held matchers and dropped them looks like one that never held them. */
    private static void nothingElse(Due due) {
        String without = Look.at(DropTest::someBook);
        String dropped = Look.at(() -> {
            MockBook book = someBook();
            Books.anyMatchers(book, 3);
            book.drop();
            return book;
        });
        due.holds("a book looking the same after drop", without.equals(dropped));
    }

    private static MockBook someBook() {
        MockBook book = new MockBook();
        book.matcher(1, 3);
        book.then(book.rule(0, 1), 0, 5);
        book.strict(1, true);
        book.call(0, 1, 3, 0, 0);
        book.call(1, 0, 0, 0, 0);
        book.inOrder(1, 0);
        return book;
    }
}
