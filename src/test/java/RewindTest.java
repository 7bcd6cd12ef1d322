/** Promise 10: rewind. */
public final class RewindTest {
    public static void main(String[] args) {
        Due due = new Due();
        MockBook book = new MockBook();
        due.is("rewind() at first", book.rewind(), -1);
        Books.callOften(book, 3, 2, 0);
        due.is("rewind() after calls", book.rewind(), -1);
        book.inOrder(2, 0);
        due.is("rewind() at mark 0", book.rewind(), 0);
        due.is("rewind() again", book.rewind(), -1);
        book.inOrder(2, 0);
        book.inOrder(2, 0);
        book.inOrder(2, 0);
        Books.anyMatchers(book, 1);
        String before = Books.seen(book);
        due.is("rewind() at mark 2", book.rewind(), 2);
        due.holds("nothing else changes", before.equals(Books.seen(book)));
        book.drop();
        due.is("inOrder from the start again", book.inOrder(2, 0), 0);
        due.end();
    }
}
