/** Promise 12: unused. */
public final class UnusedTest {
    public static void main(String[] args) {
        Sentences promise = new Sentences();
        promise.says("The least number", UnusedTest::theLeast);
        promise.says("of a live rule", UnusedTest::liveOnes);
        promise.says("that was never used", UnusedTest::neverUsed);
        promise.says("never used (nor by a PASS)", UnusedTest::usedByAPass);
        promise.says("or -10 if there is none", UnusedTest::none);
        promise.end();
    }

    private static void theLeast(Due due) {
        MockBook book = new MockBook();
        Books.rulesOften(book, 24, 0);
        due.is("unused() of 24", book.unused(), 0);
        due.is("unused() again", book.unused(), 0);
        MockBook last = new MockBook();
        Books.rulesOften(last, 23, 0);
        last.reset(0);
        last.rule(1, 0);
        due.is("unused() of the rule 23", last.unused(), 23);
    }

    private static void liveOnes(Due due) {
        MockBook book = new MockBook();
        book.rule(0, 0);
        book.rule(1, 0);
        book.rule(0, 0);
        book.reset(0);
        due.is("unused() after reset(0)", book.unused(), 1);
        book.reset(1);
        due.is("unused() after reset(1)", book.unused(), -10);
    }

    private static void neverUsed(Due due) {
        MockBook book = new MockBook();
        for (int mock = 0; mock <= 2; mock++) {
            book.rule(mock, 0);
        }
        book.call(1, 0, 0, 0, 0);
        due.is("unused() when 1 was used", book.unused(), 0);
        book.call(0, 0, 0, 0, 0);
        due.is("unused() when 0 and 1 were used", book.unused(), 2);
        book.then(2, 0, 0);
        due.is("unused() of a rule with an action", book.unused(), 2);
        book.call(2, 0, 0, 0, 0);
        due.is("unused() when all were used", book.unused(), -10);
        book.rule(0, 0);
        due.is("unused() of a new rule", book.unused(), 3);
    }

    private static void usedByAPass(Due due) {
        MockBook book = new MockBook();
        book.rule(0, 0);
        book.then(book.rule(1, 0), 4, 0);
        book.call(1, 0, 0, 0, 0);
        due.is("unused() when a PASS used rule 0", book.unused(), -10);
    }

    private static void none(Due due) {
        due.is("unused() without rules", new MockBook().unused(), -10);
        MockBook book = Books.withAction(3, 4, 0, 1);
        book.call(3, 4, 0, 0, 0);
        due.is("unused() when its one rule was used", book.unused(), -10);
    }
}
