/** Promise 5: then. What the actions do is looked at in CallTest and PassTest. */
public final class ThenTest {
    public static void main(String[] args) {
        Due due = new Due();
        itCountsToFour(due);
        noSuchRule(due);
        wrongKinds(due);
        argumentsThatTheMethodTakes(due);
        methodsThatCanBePassedTo(due);
        refusedBeforeFull(due);
        aRuleThatIsNotLive(due);
        anActionAddedLater(due);
        due.end();
    }

    private static void itCountsToFour(Due due) {
        MockBook book = new MockBook();
        book.rule(0, 0);
        book.rule(0, 0);
        int[] kinds = {4, 0, 2, 3};
        for (int i = 0; i < 4; i++) {
            due.is("then number " + i, book.then(1, kinds[i], i), i + 1);
            due.is("about(1, 0)", book.about(1, 0), i + 1);
        }
        due.is("fifth then", book.then(1, 0, 0), MockBook.FULL);
        due.is("about(1, 0) after FULL", book.about(1, 0), 4);
        due.is("about(0, 0)", book.about(0, 0), 0);
    }

    private static void noSuchRule(Due due) {
        MockBook book = new MockBook();
        due.is("then(0, 0, 0) without rules", book.then(0, 0, 0), MockBook.REFUSED);
        book.rule(0, 0);
        int[] rules = {-1, 1, 23, 24, Integer.MIN_VALUE, Integer.MAX_VALUE};
        for (int rule : rules) {
            due.is("then(" + rule + ", 0, 0)", book.then(rule, 0, 0), MockBook.REFUSED);
        }
        due.is("about(0, 0)", book.about(0, 0), 0);
    }

    private static void wrongKinds(Due due) {
        MockBook book = new MockBook();
        book.rule(0, 0);
        int[] kinds = {-1, 5, Integer.MIN_VALUE, Integer.MAX_VALUE};
        for (int kind : kinds) {
            due.is("then(0, " + kind + ", 0)", book.then(0, kind, 0), MockBook.REFUSED);
        }
        due.is("about(0, 0)", book.about(0, 0), 0);
    }

    private static void argumentsThatTheMethodTakes(Due due) {
        int[] values = {Integer.MIN_VALUE, -1, 0, 1, 2, 3, Integer.MAX_VALUE};
        for (int method = 0; method < 8; method++) {
            for (int value : values) {
                MockBook book = new MockBook();
                Books.ruleForAll(book, 0, method);
                boolean taken = value >= 0 && value < method % 4;
                int want = taken ? 1 : MockBook.REFUSED;
                due.is("then(0, 1, " + value + "), method " + method, book.then(0, 1, value), want);
                due.is("about(0, 0)", book.about(0, 0), taken ? 1 : 0);
            }
        }
    }

    private static void methodsThatCanBePassedTo(Due due) {
        for (int method = 0; method < 8; method++) {
            for (int value = -8; value < 40; value++) {
                MockBook book = new MockBook();
                Books.ruleForAll(book, 1, method);
                boolean can = value >= 0 && value <= 31 && value % 8 % 4 <= method % 4;
                int want = can ? 1 : MockBook.REFUSED;
                due.is("then(0, 4, " + value + "), method " + method, book.then(0, 4, value), want);
            }
        }
        MockBook book = new MockBook();
        book.rule(0, 0);
        due.is("then(0, 4, least)", book.then(0, 4, Integer.MIN_VALUE), MockBook.REFUSED);
        due.is("then(0, 4, greatest)", book.then(0, 4, Integer.MAX_VALUE), MockBook.REFUSED);
    }

    private static void refusedBeforeFull(Due due) {
        MockBook book = new MockBook();
        book.rule(0, 0);
        for (int i = 0; i < 4; i++) {
            book.then(0, 0, i);
        }
        due.is("wrong kind when full", book.then(0, 5, 0), MockBook.REFUSED);
        due.is("wrong argument when full", book.then(0, 1, 0), MockBook.REFUSED);
        due.is("wrong method when full", book.then(0, 4, 1), MockBook.REFUSED);
        due.is("PASS out of range when full", book.then(0, 4, 32), MockBook.REFUSED);
        book.reset(0);
        due.is("not live and full", book.then(0, 0, 0), MockBook.REFUSED);
    }

    private static void aRuleThatIsNotLive(Due due) {
        MockBook book = new MockBook();
        book.rule(0, 0);
        book.rule(1, 0);
        book.then(0, 0, 1);
        book.reset(0);
        due.is("then of a rule that isn't live", book.then(0, 0, 0), MockBook.REFUSED);
        due.is("its actions", book.about(0, 0), 1);
        due.is("then of another mock's rule", book.then(1, 0, 0), 1);
    }

    /** The place is looked up when the call comes, by the uses until then. */
    private static void anActionAddedLater(Due due) {
        MockBook book = new MockBook();
        book.rule(0, 0);
        book.then(0, 0, 5);
        due.is("first call", book.call(0, 0, 0, 0, 0), 5);
        due.is("second call", book.call(0, 0, 0, 0, 0), 5);
        book.then(0, 0, 6);
        book.then(0, 0, 7);
        due.is("third call", book.call(0, 0, 0, 0, 0), 7);
        book.then(0, 0, 8);
        due.is("fourth call", book.call(0, 0, 0, 0, 0), 8);
    }
}
