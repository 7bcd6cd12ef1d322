/** Promise 3: drop. */
public final class DropTest {
    public static void main(String[] args) {
        Due due = new Due();
        itEmptiesTheBuffer(due);
        nothingElseChanges(due);
        due.end();
    }

    private static void itEmptiesTheBuffer(Due due) {
        MockBook book = new MockBook();
        for (int held = 0; held <= 3; held++) {
            Books.anyMatchers(book, held);
            book.drop();
            due.is("count(5) after drop of " + held, book.count(5), 0);
        }
        book.matcher(1, 7);
        book.drop();
        due.is("matcher after drop", book.matcher(1, 8), 1);
        book.rule(0, 1);
        book.call(0, 1, 7, 0, 0);
        book.call(0, 1, 8, 0, 0);
        due.is("rule of a call that fits the dropped matcher", book.noted(0, 8), -1);
        due.is("rule of a call that fits the later matcher", book.noted(1, 8), 0);
    }

    private static void nothingElseChanges(Due due) {
        MockBook book = new MockBook();
        book.matcher(1, 7);
        int rule = book.rule(0, 1);
        book.then(rule, 0, 5);
        book.strict(1, true);
        book.call(0, 1, 7, 0, 0);
        String before = Books.seen(book);
        Books.anyMatchers(book, 2);
        book.drop();
        due.holds("a book is the same after drop", before.equals(Books.seen(book)));
        due.is("call by the rule after drop", book.call(0, 1, 7, 0, 0), 5);
    }
}
