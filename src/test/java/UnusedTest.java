/** Promise 12: unused. */
public final class UnusedTest {
    public static void main(String[] args) {
        Due due = new Due();
        theLeast(due);
        onlyLiveOnes(due);
        usedByAPass(due);
        due.end();
    }

    private static void theLeast(Due due) {
        MockBook book = new MockBook();
        due.is("unused() without rules", book.unused(), -10);
        book.rule(0, 0);
        book.rule(1, 0);
        book.rule(2, 0);
        due.is("unused() of three", book.unused(), 0);
        book.call(1, 0, 0, 0, 0);
        due.is("unused() when rule 1 was used", book.unused(), 0);
        book.call(0, 0, 0, 0, 0);
        due.is("unused() when 0 and 1 were used", book.unused(), 2);
        book.call(2, 0, 0, 0, 0);
        due.is("unused() when all were used", book.unused(), -10);
        book.rule(0, 0);
        due.is("unused() of a new rule", book.unused(), 3);
    }

    private static void onlyLiveOnes(Due due) {
        MockBook book = new MockBook();
        book.rule(0, 0);
        book.rule(1, 0);
        book.reset(0);
        due.is("unused() after reset(0)", book.unused(), 1);
        book.reset(1);
        due.is("unused() after reset(1)", book.unused(), -10);
    }

    private static void usedByAPass(Due due) {
        MockBook book = new MockBook();
        book.rule(0, 0);
        book.rule(1, 0);
        book.then(1, 4, 0);
        book.call(1, 0, 0, 0, 0);
        due.is("unused() when a PASS used rule 0", book.unused(), -10);
    }
}
