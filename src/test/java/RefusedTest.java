import java.util.Random;

/**
 * The terms: a refused call changes nothing, and no call ever throws. Long runs of calls with wrong and right
 * numbers mixed, from fixed seeds; after each call that was refused the book must look as it did before.
 */
public final class RefusedTest {
    private static final int[] ODD = {Integer.MIN_VALUE, -9, -8, -1, 4, 8, 24, 31, 32, 160, Integer.MAX_VALUE};

    public static void main(String[] args) {
        Due due = new Due();
        for (int seed = 0; seed < 40; seed++) {
            mixedCalls(due, seed);
        }
        theMarkAndTheBuffer(due);
        due.end();
    }

    private static int number(Random random, int below) {
        return random.nextInt(6) == 0 ? ODD[random.nextInt(ODD.length)] : random.nextInt(below);
    }

    private static void mixedCalls(Due due, int seed) {
        Random random = new Random(seed);
        MockBook book = new MockBook();
        for (int i = 0; i < 512; i++) {
            String before = Books.seen(book);
            int kind = random.nextInt(13);
            if (isRefused(oneCall(book, random, kind), kind)) {
                String what = "seed " + seed + ", call " + i + ", of kind " + kind + ": the same book as before";
                due.holds(what, before.equals(Books.seen(book)));
            }
        }
    }

    private static boolean isRefused(long answer, int kind) {
        // A call can give the numbers -1 and -2; it is refused by NONE alone. No mark is what rewind may tell.
        return kind == 4 || kind == 10 || kind == 11
            ? answer == MockBook.NONE
            : answer == MockBook.REFUSED || answer == MockBook.FULL;
    }

    private static long oneCall(MockBook book, Random random, int kind) {
        int mock = number(random, 4);
        int method = number(random, 8);
        switch (kind) {
            case 0: return book.matcher(number(random, 6), random.nextInt(5));
            case 1: return book.rule(mock, method);
            case 2: return book.then(number(random, 24), number(random, 5), number(random, 32));
            case 3: return book.strict(mock, random.nextBoolean());
            case 4: return book.call(mock, method, random.nextInt(5), random.nextInt(5), random.nextInt(5));
            case 5: return book.verify(mock, method, number(random, 3), random.nextInt(4));
            case 6: return book.inOrder(mock, method);
            case 7: return book.open(mock);
            case 8: return random.nextInt(4) == 0 ? book.reset(mock) : book.unused();
            case 9: return book.about(number(random, 24), number(random, 3));
            case 10: return book.noted(number(random, 160), number(random, 10));
            case 11: return book.answer(number(random, 160));
            default: return book.count(number(random, 6));
        }
    }

    private static void theMarkAndTheBuffer(Due due) {
        MockBook book = new MockBook();
        for (int i = 0; i < 24; i++) {
            book.rule(3, 0);
        }
        book.call(0, 3, 1, 2, 3);
        book.call(0, 3, 1, 2, 4);
        Books.anyMatchers(book, 3);
        book.inOrder(0, 3);
        book.matcher(1, 1);
        book.matcher(2, 3);
        book.matcher(4, 3);
        due.is("matcher, full", book.matcher(0, 0), MockBook.FULL);
        due.is("matcher, wrong", book.matcher(7, 0), MockBook.REFUSED);
        due.is("rule, full", book.rule(0, 3), MockBook.FULL);
        due.is("rule, wrong", book.rule(0, 2), MockBook.REFUSED);
        due.is("verify, wrong", book.verify(0, 2, 0, 0), MockBook.REFUSED);
        due.is("inOrder, wrong", book.inOrder(0, 2), MockBook.REFUSED);
        due.is("reset, wrong", book.reset(9), MockBook.REFUSED);
        due.is("inOrder by the buffer and the mark that stayed", book.inOrder(0, 3), 1);
    }
}
