/** Promise 2: matcher, and what the matchers of each kind fit. */
public final class MatcherTest {
    private static final int LEAST = Integer.MIN_VALUE;
    private static final int GREATEST = Integer.MAX_VALUE;
    private static final int[] NUMBERS = {LEAST, LEAST + 1, -6, -5, -4, -3, -2, -1, 0, 1, 2, 3, 4, 5, 6, 7,
        GREATEST - 1, GREATEST};

    public static void main(String[] args) {
        Due due = new Due();
        itCounts(due);
        wrongKinds(due);
        wrongKindBeforeFull(due);
        allKindsFitAsTold(due);
        everyPlaceIsMatched(due);
        due.end();
    }

    private static void itCounts(Due due) {
        MockBook book = new MockBook();
        due.is("first matcher", book.matcher(0, 9), 1);
        due.is("second matcher", book.matcher(5, LEAST), 2);
        due.is("third matcher", book.matcher(3, GREATEST), 3);
        due.is("fourth matcher", book.matcher(1, 1), MockBook.FULL);
        due.is("fifth matcher", book.matcher(1, 1), MockBook.FULL);
        due.is("count(5) after a full buffer", book.count(5), 3);
    }

    private static void wrongKinds(Due due) {
        MockBook book = new MockBook();
        int[] kinds = {-1, 6, LEAST, GREATEST};
        for (int kind : kinds) {
            due.is("matcher(" + kind + ", 0)", book.matcher(kind, 0), MockBook.REFUSED);
        }
        due.is("count(5) after wrong kinds", book.count(5), 0);
    }

    private static void wrongKindBeforeFull(Due due) {
        MockBook book = new MockBook();
        Books.anyMatchers(book, 3);
        due.is("matcher(6, 0), buffer full", book.matcher(6, 0), MockBook.REFUSED);
        due.is("matcher(-1, 0), buffer full", book.matcher(-1, 0), MockBook.REFUSED);
    }

    private static boolean shouldFit(int kind, int v, int x) {
        switch (kind) {
            case 0: return true;
            case 1: return x == v;
            case 2: return x != v;
            case 3: return x < v;
            case 4: return x > v;
            default: return ((long) x - v) % 4 == 0;
        }
    }

    private static void allKindsFitAsTold(Due due) {
        for (int kind = 0; kind <= 5; kind++) {
            for (int v : NUMBERS) {
                MockBook book = new MockBook();
                book.matcher(kind, v);
                book.rule(2, 1);
                for (int i = 0; i < NUMBERS.length; i++) {
                    book.call(2, 1, NUMBERS[i], 0, 0);
                    int rule = shouldFit(kind, v, NUMBERS[i]) ? 0 : -1;
                    due.is("rule of " + NUMBERS[i] + " by kind " + kind + " of " + v, book.noted(i, 8), rule);
                }
            }
        }
    }

    private static void everyPlaceIsMatched(Due due) {
        for (int place = 0; place < 3; place++) {
            MockBook book = new MockBook();
            for (int i = 0; i < 3; i++) {
                book.matcher(1, 10 + i);
            }
            book.rule(0, 7);
            book.call(0, 7, 10, 11, 12);
            book.call(0, 7, place == 0 ? 9 : 10, place == 1 ? 9 : 11, place == 2 ? 9 : 12);
            due.is("rule of a call that fits in all places", book.noted(0, 8), 0);
            due.is("rule of a call that doesn't fit in place " + place, book.noted(1, 8), -1);
        }
    }
}
