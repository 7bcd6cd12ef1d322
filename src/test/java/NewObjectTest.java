/** Promise 1: the state that the terms give to a new object. */
public final class NewObjectTest {
    public static void main(String[] args) {
        Due due = new Due();
        theConstants(due);
        nothingIsThere(due);
        noMockIsStrict(due);
        objectsShareNothing(due);
        due.end();
    }

    private static void theConstants(Due due) {
        due.is("REFUSED", MockBook.REFUSED, -1);
        due.is("FULL", MockBook.FULL, -2);
        due.is("UNEXPECTED", MockBook.UNEXPECTED, 20000000000L);
        due.is("TOO_DEEP", MockBook.TOO_DEEP, 20000000001L);
        due.is("FAILED", MockBook.FAILED, 40000000000L);
        due.is("NONE", MockBook.NONE, 60000000000L);
    }

    private static void nothingIsThere(Due due) {
        MockBook book = new MockBook();
        for (int what = 0; what <= 5; what++) {
            due.is("count(" + what + ") of a new object", book.count(what), 0);
        }
        for (int mock = 0; mock <= 3; mock++) {
            due.is("open(" + mock + ") of a new object", book.open(mock), -10);
            due.is("reset(" + mock + ") of a new object", book.reset(mock), 0);
        }
        due.is("unused() of a new object", book.unused(), -10);
        due.is("rewind() of a new object", book.rewind(), -1);
        due.is("about(0, 0) of a new object", book.about(0, 0), -1);
        due.is("noted(0, 0) of a new object", book.noted(0, 0), MockBook.NONE);
        due.is("answer(0) of a new object", book.answer(0), MockBook.NONE);
    }

    private static void noMockIsStrict(Due due) {
        MockBook book = new MockBook();
        for (int mock = 0; mock <= 3; mock++) {
            due.is("strict(" + mock + ", false) of a new object", book.strict(mock, false), 0);
            due.is("call(" + mock + ", 3, 1, 2, 3) without rules", book.call(mock, 3, 1, 2, 3), 0);
        }
    }

    private static void objectsShareNothing(Due due) {
        MockBook used = new MockBook();
        MockBook other = new MockBook();
        used.rule(0, 0);
        used.call(0, 0, 0, 0, 0);
        used.strict(0, true);
        used.matcher(0, 0);
        used.drop();
        used.inOrder(0, 0);
        used.matcher(0, 0);
        for (int what = 0; what <= 5; what++) {
            due.is("count(" + what + ") of an object beside a used one", other.count(what), 0);
        }
        due.is("strict(0, false) beside a used one", other.strict(0, false), 0);
        due.is("rewind() beside a used one", other.rewind(), -1);
    }
}
