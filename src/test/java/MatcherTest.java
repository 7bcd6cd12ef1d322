/** Promise 2: matcher. What the kinds fit is looked at in TermsMatchersTest. */
public final class MatcherTest {
    public static void main(String[] args) {
        Sentences promise = new Sentences();
        promise.says("Adds a matcher to the buffer", MatcherTest::adds);
        promise.says("answers how many it holds then", MatcherTest::howMany);
        promise.says("Kind not 0 .. 5: REFUSED", MatcherTest::wrongKinds);
        promise.says("Kind not 0 .. 5 (the kinds 0 and 5, and any value)", MatcherTest::rightKinds);
        promise.says("It holds 3: FULL", MatcherTest::full);
        promise.end();
    }

    private static void adds(Due due) {
        MockBook book = Books.withCall(0, 3, 1, 2, 3);
        book.call(0, 3, 3, 2, 1);
        for (int value = 1; value <= 3; value++) {
            book.matcher(1, value);
            due.is("count(5)", book.count(5), value);
        }
        due.is("verify by 1, 2, 3", book.verify(0, 3, 0, 1), 1);
        due.is("noted(0, 7): the matchers stand in the order of their adding", book.noted(0, 7), 1);
    }

    private static void howMany(Due due) {
        MockBook book = new MockBook();
        for (int round = 0; round < 2; round++) {
            for (int held = 1; held <= 3; held++) {
                due.is("matcher number " + held, book.matcher(round, held), held);
            }
            book.drop();
        }
        book.matcher(0, 0);
        book.rule(0, 1);
        due.is("matcher after rule", book.matcher(0, 0), 1);
        book.verify(0, 1, 0, 0);
        due.is("matcher after verify", book.matcher(0, 0), 1);
        book.inOrder(0, 1);
        due.is("matcher after inOrder", book.matcher(0, 0), 1);
    }

    private static void wrongKinds(Due due) {
        for (int kind : Books.outside(0, 5)) {
            for (int value : new int[] {Books.LEAST, 0, Books.GREATEST}) {
                State.allRefuse(due, "matcher(" + kind + ", " + value + ")", book -> book.matcher(kind, value), -1);
            }
        }
    }

    private static void rightKinds(Due due) {
        for (int kind = 0; kind <= 5; kind++) {
            for (int value : new int[] {Books.LEAST, -1, 0, 1, Books.GREATEST}) {
                due.is("matcher(" + kind + ", " + value + ")", new MockBook().matcher(kind, value), 1);
            }
        }
    }

    private static void full(Due due) {
        for (int kind = 0; kind <= 5; kind++) {
            int tried = kind;
            State.FULL.refuses(due, "matcher(" + kind + ", 7)", book -> book.matcher(tried, 7), -2);
        }
        MockBook book = new MockBook();
        Books.anyMatchers(book, 2);
        due.is("matcher when it holds 2", book.matcher(0, 0), 3);
        due.is("matcher when it holds 3", book.matcher(0, 0), -2);
        due.is("matcher once more", book.matcher(0, 0), -2);
        due.is("count(5)", book.count(5), 3);
    }
}
