/** Promise 15: answer. */
public final class AnswerTest {
    public static void main(String[] args) {
        Sentences promise = new Sentences();
        promise.says("Its answer", AnswerTest::itsAnswer);
        promise.says("Its answer (live or not)", AnswerTest::afterReset);
        promise.says("NONE if there is no such number", AnswerTest::noSuchNumber);
        promise.end();
    }

    private static void itsAnswer(Due due) {
        MockBook book = Books.withAction(0, 0, 0, Books.LEAST);
        book.then(0, 3, 5);
        book.then(0, 2, 0);
        book.then(0, 4, 8);
        book.strict(1, true);
        Books.callOften(book, 4, 0, 0);
        Books.callOften(book, 1, 2, 0);
        long[] answers = {Books.LEAST, 40000000005L, 2, 20000000000L, 20000000000L, 0};
        for (int i = 0; i < answers.length; i++) {
            due.is("answer(" + i + ")", book.answer(i), answers[i]);
        }
        MockBook counting = Books.withAction(0, 0, 2, 0);
        Books.callOften(counting, 160, 0, 0);
        for (int i = 0; i < 160; i++) {
            due.is("answer(" + i + ")", counting.answer(i), i);
        }
    }

    private static void afterReset(Due due) {
        MockBook book = Books.withAction(0, 0, 0, 12);
        Books.callOften(book, 1, 0, 0);
        book.reset(0);
        due.is("answer(0) after a reset", book.answer(0), 12);
    }

    private static void noSuchNumber(Due due) {
        for (State state : State.values()) {
            for (int number : Books.outside(0, state.interactions - 1)) {
                state.refuses(due, "answer(" + number + ")", book -> book.answer(number), 60000000000L);
            }
        }
        MockBook book = new MockBook();
        Books.callOften(book, 3, 0, 0);
        due.is("answer(2)", book.answer(2), 0);
        due.is("answer(3)", book.answer(3), 60000000000L);
    }
}
