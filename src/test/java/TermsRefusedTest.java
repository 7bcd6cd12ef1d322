import java.util.Random;

/** The terms: refused calls. What each promise refuses is looked at in its own test, in every state. */
public final class TermsRefusedTest {
    private static final int KINDS = 13;
    private static final int[] ODD = {Books.LEAST, -9, -8, -1, 4, 8, 24, 31, 32, 160, Books.GREATEST};

    public static void main(String[] args) {
        Sentences terms = new Sentences();
        terms.says("A refused call answers REFUSED or FULL", TermsRefusedTest::refusedOrFull);
        terms.says("or NONE if its answer is a long", TermsRefusedTest::none);
        terms.says("and changes nothing", TermsRefusedTest::changesNothing);
        terms.says("numbers out of range are tested first, then the buffer", TermsRefusedTest::rangeBeforeRoom);
        terms.says("then the buffer, then room", TermsRefusedTest::bufferBeforeRoom);
        terms.end();
    }

    private static void refusedOrFull(Due due) {
        State.FULL.refuses(due, "matcher(6, 0)", book -> book.matcher(6, 0), -1);
        State.FULL.refuses(due, "matcher(0, 0)", book -> book.matcher(0, 0), -2);
        State.FULL.refuses(due, "rule(4, 3)", book -> book.rule(4, 3), -1);
        State.FULL.refuses(due, "rule(0, 3)", book -> book.rule(0, 3), -2);
        State.FULL.refuses(due, "then(24, 0, 0)", book -> book.then(24, 0, 0), -1);
        State.FULL.refuses(due, "then(0, 0, 0)", book -> book.then(0, 0, 0), -2);
        State.FULL.refuses(due, "strict(4, true)", book -> book.strict(4, true), -1);
        State.FULL.refuses(due, "verify(4, 3, 0, 0)", book -> book.verify(4, 3, 0, 0), -1);
        State.FULL.refuses(due, "inOrder(4, 3)", book -> book.inOrder(4, 3), -1);
        State.FULL.refuses(due, "open(4)", book -> book.open(4), -1);
        State.FULL.refuses(due, "reset(4)", book -> book.reset(4), -1);
        State.FULL.refuses(due, "about(24, 0)", book -> book.about(24, 0), -1);
        State.FULL.refuses(due, "count(6)", book -> book.count(6), -1);
    }

    private static void none(Due due) {
        State.FULL.refuses(due, "call(4, 0, ..)", book -> book.call(4, 0, 0, 0, 0), 60000000000L);
        State.FULL.refuses(due, "call(0, 0, ..)", book -> book.call(0, 0, 0, 0, 0), 60000000000L);
        State.FULL.refuses(due, "noted(160, 0)", book -> book.noted(160, 0), 60000000000L);
        State.FULL.refuses(due, "answer(160)", book -> book.answer(160), 60000000000L);
    }

    /** Runs from fixed seeds, right and wrong numbers mixed; whenever a call is refused, it is looked at. */
    private static void changesNothing(Due due) {
        for (int seed = 0; seed < 4; seed++) {
            long[] answers = new long[300];
            replay(seed, answers.length, answers);
            for (int i = 0; i < answers.length; i++) {
                if (isRefused(answers[i], kindOf(seed, i))) {
                    String what = "the refused call " + i + " of seed " + seed + " changing nothing";
                    due.holds(what, lookAfter(seed, i).equals(lookAfter(seed, i + 1)));
                }
            }
        }
    }

    private static String lookAfter(int seed, int calls) {
        return Look.at(() -> replay(seed, calls, new long[calls]));
    }

    private static int kindOf(int seed, int call) {
        return new Random(seed * 1000L + call).nextInt(KINDS);
    }

    static MockBook replay(int seed, int calls, long[] answers) {
        MockBook book = new MockBook();
        for (int i = 0; i < calls; i++) {
            answers[i] = oneCall(book, new Random(seed * 1000L + i));
        }
        return book;
    }

    private static boolean isRefused(long answer, int kind) {
        // A call may give the numbers -1 and -2: it is refused by NONE alone.
        return kind == 4 || kind == 10 || kind == 11 ? answer == 60000000000L : answer == -1 || answer == -2;
    }

    private static int number(Random random, int below) {
        return random.nextInt(6) == 0 ? ODD[random.nextInt(ODD.length)] : random.nextInt(below);
    }

    private static long oneCall(MockBook book, Random random) {
        int kind = random.nextInt(KINDS);
        int mock = number(random, 4);
        int method = number(random, 8);
        switch (kind) {
            case 0: return book.matcher(number(random, 6), random.nextInt(5));
            case 1: return book.rule(mock, method);
            case 2: return book.then(number(random, 24), number(random, 5), number(random, 32));
            case 3: return book.strict(mock, random.nextBoolean());
            case 4: return book.call(mock, method, random.nextInt(5), random.nextInt(5), random.nextInt(5));
            case 5: return book.verify(mock, method, number(random, 3), random.nextInt(4));
            case 6: return book.inOrder(mock, method);
            case 7: return book.open(mock);
            case 8: return random.nextInt(4) == 0 ? book.reset(mock) : book.unused();
            case 9: return book.about(number(random, 24), number(random, 3));
            case 10: return book.noted(number(random, 160), number(random, 10));
            case 11: return book.answer(number(random, 160));
            default: return book.count(number(random, 6));
        }
    }

    /** In the full state, where a call with the right numbers answers FULL. */
    private static void rangeBeforeRoom(Due due) {
        for (int kind : Books.outside(0, 5)) {
            State.FULL.refuses(due, "matcher(" + kind + ", 0)", book -> book.matcher(kind, 0), -1);
        }
        for (int mock : Books.outside(0, 3)) {
            State.FULL.refuses(due, "rule(" + mock + ", 3)", book -> book.rule(mock, 3), -1);
        }
        for (int method : Books.outside(0, 7)) {
            State.FULL.refuses(due, "rule(0, " + method + ")", book -> book.rule(0, method), -1);
        }
        for (int kind : Books.outside(0, 4)) {
            State.FULL.refuses(due, "then(0, " + kind + ", 0)", book -> book.then(0, kind, 0), -1);
        }
        for (int value : Books.outside(0, 2)) {
            State.FULL.refuses(due, "then(0, 1, " + value + ")", book -> book.then(0, 1, value), -1);
        }
        for (int value : Books.outside(0, 31)) {
            State.FULL.refuses(due, "then(0, 4, " + value + ")", book -> book.then(0, 4, value), -1);
        }
    }

    private static void bufferBeforeRoom(Due due) {
        for (int method : new int[] {0, 1, 2, 4, 5, 6}) {
            State.FULL.refuses(due, "rule(0, " + method + ") by 3 matchers", book -> book.rule(0, method), -1);
        }
        State.FULL.refuses(due, "rule(0, 7) by 3 matchers", book -> book.rule(0, 7), -2);
    }
}
