/** Promise 15: answer. */
public final class AnswerTest {
    public static void main(String[] args) {
        Due due = new Due();
        everyCallKeepsItsOwn(due);
        itStaysAfterAReset(due);
        noSuchNumber(due);
        due.end();
    }

    private static void everyCallKeepsItsOwn(Due due) {
        MockBook book = new MockBook();
        book.rule(0, 0);
        book.then(0, 0, -5);
        book.then(0, 3, 5);
        book.then(0, 2, 0);
        book.then(0, 4, 8);
        book.strict(1, true);
        long[] want = {-5, 40000000005L, 2, 20000000000L, 20000000000L, 20000000000L, 20000000000L};
        Books.callOften(book, 5, 0, 0);
        for (int i = 0; i < want.length; i++) {
            due.is("answer(" + i + ")", book.answer(i), want[i]);
        }
    }

    private static void itStaysAfterAReset(Due due) {
        MockBook book = new MockBook();
        book.rule(0, 0);
        book.then(0, 0, 12);
        Books.callOften(book, 1, 0, 0);
        book.reset(0);
        due.is("answer(0) after a reset", book.answer(0), 12);
    }

    private static void noSuchNumber(Due due) {
        MockBook book = new MockBook();
        due.is("answer(0) at first", book.answer(0), MockBook.NONE);
        Books.callOften(book, 3, 0, 0);
        int[] numbers = {-1, 3, 160, Integer.MIN_VALUE, Integer.MAX_VALUE};
        for (int number : numbers) {
            due.is("answer(" + number + ")", book.answer(number), MockBook.NONE);
        }
        due.is("answer(2)", book.answer(2), 0);
    }
}
