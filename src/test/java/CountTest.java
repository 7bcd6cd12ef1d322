/** Promise 17: count. */
public final class CountTest {
    public static void main(String[] args) {
        Sentences promise = new Sentences();
        promise.says("Interactions noted (0)", CountTest::noted);
        promise.says("live ones (1)", CountTest::liveInteractions);
        promise.says("verified live ones (2)", CountTest::verifiedLiveOnes);
        promise.says("rules made (3)", CountTest::rulesMade);
        promise.says("live ones (4)", CountTest::liveRules);
        promise.says("matchers in the buffer (5)", CountTest::matchers);
        promise.says("else REFUSED", CountTest::anotherWhat);
        promise.end();
    }

    private static void noted(Due due) {
        MockBook book = new MockBook();
        for (int i = 0; i < 160; i++) {
            due.is("count(0)", book.count(0), i);
            book.call(i % 4, 0, 0, 0, 0);
        }
        due.is("count(0) when full", book.count(0), 160);
        book.call(0, 0, 0, 0, 0);
        due.is("count(0) after a refused call", book.count(0), 160);
        book.reset(0);
        due.is("count(0) after a reset", book.count(0), 160);
        MockBook passing = Books.withAction(0, 0, 4, 8);
        passing.call(0, 0, 0, 0, 0);
        due.is("count(0) of a call that was passed", passing.count(0), 2);
    }

    private static void liveInteractions(Due due) {
        MockBook book = new MockBook();
        due.is("count(1) at first", book.count(1), 0);
        Books.callOften(book, 100, 0, 0);
        Books.callOften(book, 60, 1, 0);
        due.is("count(1) of 160", book.count(1), 160);
        book.verify(0, 0, 0, 100);
        due.is("count(1) after verify", book.count(1), 160);
        book.reset(0);
        due.is("count(1) after reset(0)", book.count(1), 60);
        book.reset(0);
        due.is("count(1) after reset(0) again", book.count(1), 60);
        book.reset(1);
        due.is("count(1) after reset(1)", book.count(1), 0);
    }

    private static void verifiedLiveOnes(Due due) {
        MockBook book = new MockBook();
        Books.callOften(book, 3, 0, 0);
        Books.callOften(book, 2, 1, 0);
        due.is("count(2) at first", book.count(2), 0);
        book.inOrder(1, 0);
        due.is("count(2) after inOrder", book.count(2), 1);
        book.verify(0, 0, 0, 3);
        due.is("count(2) after verify", book.count(2), 4);
        book.verify(1, 0, 0, 1);
        due.is("count(2) after a verify that didn't hold", book.count(2), 4);
        book.reset(0);
        due.is("count(2) after a reset", book.count(2), 1);
    }

    private static void rulesMade(Due due) {
        MockBook book = new MockBook();
        for (int i = 0; i < 24; i++) {
            due.is("count(3)", book.count(3), i);
            book.rule(i % 4, 0);
        }
        due.is("count(3) when full", book.count(3), 24);
        book.rule(0, 0);
        due.is("count(3) after a refused rule", book.count(3), 24);
        book.reset(0);
        due.is("count(3) after a reset", book.count(3), 24);
    }

    private static void liveRules(Due due) {
        MockBook book = new MockBook();
        due.is("count(4) at first", book.count(4), 0);
        Books.rulesOften(book, 20, 0);
        Books.rulesOften(book, 4, 1);
        due.is("count(4) of 24", book.count(4), 24);
        book.call(0, 0, 0, 0, 0);
        due.is("count(4) after a call", book.count(4), 24);
        book.reset(0);
        due.is("count(4) after reset(0)", book.count(4), 4);
        book.reset(1);
        due.is("count(4) after reset(1)", book.count(4), 0);
    }

    private static void matchers(Due due) {
        MockBook book = new MockBook();
        for (int held = 0; held <= 3; held++) {
            due.is("count(5)", book.count(5), held);
            book.matcher(0, 0);
        }
        due.is("count(5) after a refused matcher", book.count(5), 3);
        book.reset(0);
        due.is("count(5) after a reset", book.count(5), 3);
        book.rule(0, 3);
        due.is("count(5) after rule", book.count(5), 0);
    }

    private static void anotherWhat(Due due) {
        for (int what : Books.outside(0, 5)) {
            State.allRefuse(due, "count(" + what + ")", book -> book.count(what), -1);
        }
    }
}
