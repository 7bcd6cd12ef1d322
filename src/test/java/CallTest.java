/** Promise 7: call, with every action but PASS. */
public final class CallTest {
    public static void main(String[] args) {
        Due due = new Due();
        outOfRange(due);
        numbersForAllMocksTogether(due);
        give(due);
        argument(due);
        uses(due);
        fail(due);
        actionsInTurn(due);
        atMost160(due);
        theBufferStays(due);
        due.end();
    }

    private static void outOfRange(Due due) {
        MockBook book = new MockBook();
        int[][] wrong = {{-1, 0}, {4, 0}, {0, -1}, {0, 8}, {-1, 8}, {Integer.MIN_VALUE, 0}, {Integer.MAX_VALUE, 0},
            {0, Integer.MIN_VALUE}, {0, Integer.MAX_VALUE}};
        for (int[] place : wrong) {
            long got = book.call(place[0], place[1], 1, 2, 3);
            due.is("call(" + place[0] + ", " + place[1] + ", 1, 2, 3)", got, MockBook.NONE);
        }
        due.is("count(0) after refused calls", book.count(0), 0);
    }

    private static void numbersForAllMocksTogether(Due due) {
        MockBook book = new MockBook();
        for (int i = 0; i < 32; i++) {
            due.is("call without a rule", book.call(i % 4, i / 4, 1, 2, 3), 0);
            due.is("count(0)", book.count(0), i + 1);
            due.is("noted(" + i + ", 0)", book.noted(i, 0), i % 4);
            due.is("noted(" + i + ", 1)", book.noted(i, 1), i / 4);
        }
    }

    private static void give(Due due) {
        int[] values = {0, 1, -1, -10, Integer.MAX_VALUE, Integer.MIN_VALUE};
        for (int value : values) {
            MockBook book = new MockBook();
            book.rule(0, 0);
            book.then(0, 0, value);
            due.is("GIVE " + value, book.call(0, 0, 5, 6, 7), value);
        }
        MockBook book = new MockBook();
        book.rule(0, 0);
        due.is("a rule without actions", book.call(0, 0, 5, 6, 7), 0);
        due.is("its uses", book.about(0, 1), 1);
    }

    private static void argument(Due due) {
        int[] arguments = {-7, Integer.MAX_VALUE, Integer.MIN_VALUE};
        for (int method = 0; method < 8; method++) {
            for (int place = 0; place < method % 4; place++) {
                MockBook book = new MockBook();
                Books.ruleForAll(book, 2, method);
                book.then(0, 1, place);
                long got = book.call(2, method, arguments[0], arguments[1], arguments[2]);
                due.is("ARGUMENT " + place + " of method " + method, got, arguments[place]);
            }
        }
    }

    private static void uses(Due due) {
        MockBook book = new MockBook();
        book.rule(0, 0);
        book.then(0, 0, 50);
        book.then(0, 2, 99);
        due.is("GIVE first", book.call(0, 0, 0, 0, 0), 50);
        for (int i = 1; i < 6; i++) {
            due.is("USES", book.call(0, 0, 0, 0, 0), i);
            due.is("about(0, 1)", book.about(0, 1), i + 1);
        }
    }

    private static void fail(Due due) {
        int[] codes = {0, 7, -7, Integer.MAX_VALUE, Integer.MIN_VALUE};
        for (int code : codes) {
            MockBook book = new MockBook();
            book.rule(0, 0);
            book.then(0, 3, code);
            due.is("FAIL with " + code, book.call(0, 0, 0, 0, 0), 40000000000L + code);
            due.is("its answer kept", book.answer(0), 40000000000L + code);
        }
    }

    private static void actionsInTurn(Due due) {
        for (int actions = 1; actions <= 4; actions++) {
            MockBook book = new MockBook();
            book.rule(3, 4);
            for (int i = 0; i < actions; i++) {
                book.then(0, 0, 100 + i);
            }
            for (int i = 0; i < 7; i++) {
                int last = Math.min(i, actions - 1);
                due.is("call " + i + " of " + actions + " actions", book.call(3, 4, 0, 0, 0), 100 + last);
            }
            due.is("about(0, 1)", book.about(0, 1), 7);
        }
    }

    private static void atMost160(Due due) {
        MockBook book = new MockBook();
        book.rule(0, 0);
        book.then(0, 0, 3);
        for (int i = 0; i < 160; i++) {
            due.is("call " + i, book.call(0, 0, 0, 0, 0), 3);
        }
        String before = Books.seen(book);
        due.is("call 160", book.call(0, 0, 0, 0, 0), MockBook.NONE);
        due.is("call 160 of another mock", book.call(1, 0, 0, 0, 0), MockBook.NONE);
        due.holds("a refused call changes nothing", before.equals(Books.seen(book)));
        due.is("uses after refused calls", book.about(0, 1), 160);
        book.reset(0);
        due.is("call after a reset", book.call(0, 0, 0, 0, 0), MockBook.NONE);
    }

    private static void theBufferStays(Due due) {
        MockBook book = new MockBook();
        book.matcher(1, 5);
        book.call(0, 1, 5, 0, 0);
        book.call(0, 2, 5, 0, 0);
        due.is("count(5) after calls", book.count(5), 1);
        due.is("verify by the buffer that stayed", book.verify(0, 1, 0, 1), 1);
    }
}
