/** Promise 1: a new object. */
public final class NewObjectTest {
    public static void main(String[] args) {
        Sentences promise = new Sentences();
        promise.says("makes an object in the state that the terms give", NewObjectTest::nothingIsThere);
        promise.says("the state that the terms give: no mock is strict", NewObjectTest::noMockIsStrict);
        promise.says("the state that the terms give: the mark is -1", NewObjectTest::noMark);
        promise.says("makes an object (of its own)", NewObjectTest::objectsShareNothing);
        promise.end();
    }

    private static void nothingIsThere(Due due) {
        MockBook book = new MockBook();
        for (int what = 0; what <= 5; what++) {
            due.is("count(" + what + ")", book.count(what), 0);
        }
        for (int mock = 0; mock <= 3; mock++) {
            due.is("open(" + mock + ")", book.open(mock), -10);
            due.is("reset(" + mock + ")", book.reset(mock), 0);
        }
        due.is("unused()", book.unused(), -10);
        due.is("about(0, 0)", book.about(0, 0), -1);
        due.is("then(0, 0, 0)", book.then(0, 0, 0), -1);
        due.is("noted(0, 0)", book.noted(0, 0), 60000000000L);
        due.is("answer(0)", book.answer(0), 60000000000L);
        due.is("verify(0, 0, 0, 0)", book.verify(0, 0, 0, 0), 0);
        due.is("inOrder(0, 0)", book.inOrder(0, 0), -10);
    }

    private static void noMockIsStrict(Due due) {
        MockBook book = new MockBook();
        for (int mock = 0; mock <= 3; mock++) {
            due.is("call(" + mock + ", 3, 1, 2, 3)", book.call(mock, 3, 1, 2, 3), 0);
            due.is("strict(" + mock + ", false)", book.strict(mock, false), 0);
        }
    }

    private static void noMark(Due due) {
        due.is("rewind()", new MockBook().rewind(), -1);
        MockBook book = Books.withCall(0, 0, 0, 0, 0);
        due.is("inOrder of the interaction 0", book.inOrder(0, 0), 0);
    }

    private static void objectsShareNothing(Due due) {
        MockBook before = new MockBook();
        MockBook used = new MockBook();
        used.rule(0, 0);
        used.then(0, 0, 7);
        used.call(0, 0, 0, 0, 0);
        used.strict(0, true);
        used.inOrder(0, 0);
        used.matcher(1, 5);
        MockBook after = new MockBook();
        for (MockBook other : new MockBook[] {before, after}) {
            for (int what = 0; what <= 5; what++) {
                due.is("count(" + what + ") beside a used one", other.count(what), 0);
            }
            due.is("strict(0, false) beside a used one", other.strict(0, false), 0);
            due.is("rewind() beside a used one", other.rewind(), -1);
            due.is("call beside a used one", other.call(0, 0, 0, 0, 0), 0);
        }
        due.is("count(0) of the used one", used.count(0), 1);
    }
}
