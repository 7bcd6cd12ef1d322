/** The terms: matchers, what those of each kind fit, and the buffer. */
public final class TermsMatchersTest {
    private static final int[] NUMBERS = {Books.LEAST, Books.LEAST + 1, Books.LEAST + 2, Books.LEAST + 3,
        -9, -8, -7, -6, -5, -4, -3, -2, -1, 0, 1, 2, 3, 4, 5, 6, 7, 8, 9,
        Books.GREATEST - 3, Books.GREATEST - 2, Books.GREATEST - 1, Books.GREATEST};

    /** Whether a matcher with the value v should fit the argument x. */
    private interface Fitting {
        boolean of(int v, int x);
    }

    public static void main(String[] args) {
        Sentences terms = new Sentences();
        terms.says("FITS an argument x: 0 always", due -> fits(due, 0, (v, x) -> true));
        terms.says("1 x is v", due -> fits(due, 1, (v, x) -> x == v));
        terms.says("2 x is not v", due -> fits(due, 2, (v, x) -> x != v));
        terms.says("3 x is less than v", due -> fits(due, 3, (v, x) -> x < v));
        terms.says("4 x is greater than v", due -> fits(due, 4, (v, x) -> x > v));
        terms.says("5 the remainder of x by 4 (0 .. 3) is the remainder of v by 4",
            due -> fits(due, 5, (v, x) -> ((long) x - v) % 4 == 0));
        terms.says("the remainder of x by 4 (0 .. 3)", TermsMatchersTest::remaindersBelowZero);
        terms.says("THE BUFFER holds 0 to 3 matchers", TermsMatchersTest::theBufferHolds);
        terms.says("none at first", TermsMatchersTest::noneAtFirst);
        terms.says("It SUITS a method if it holds as many as the method takes arguments", TermsMatchersTest::suits);
        terms.says("a call FITS it then if every argument fits its matcher", TermsMatchersTest::everyArgument);
        terms.says("a call FITS it then (a buffer that holds none)", TermsMatchersTest::emptyBufferFitsAll);
        terms.end();
    }

    private static void fits(Due due, int kind, Fitting fitting) {
        for (int v : NUMBERS) {
            MockBook ruled = new MockBook();
            ruled.matcher(kind, v);
            ruled.rule(2, 1);
            for (int i = 0; i < NUMBERS.length; i++) {
                int x = NUMBERS[i];
                boolean fit = fitting.of(v, x);
                String what = " of " + x + " by the matcher " + kind + " " + v;
                ruled.call(2, 1, x, 0, 0);
                due.is("rule" + what, ruled.noted(i, 8), fit ? 0 : -1);
                due.is("verify" + what, called(x, kind, v).verify(2, 1, 0, 1), fit ? 1 : -10);
                due.is("inOrder" + what, called(x, kind, v).inOrder(2, 1), fit ? 0 : -10);
            }
        }
    }

    private static MockBook called(int x, int kind, int v) {
        MockBook book = Books.withCall(2, 1, x, 0, 0);
        book.matcher(kind, v);
        return book;
    }

    private static void remaindersBelowZero(Due due) {
        int[][] remainders = {{-1, 3}, {-2, 2}, {-3, 1}, {-4, 0}, {-5, 3}, {-8, 0}, {Books.LEAST, 0},
            {Books.LEAST + 1, 1}, {Books.GREATEST, 3}, {4, 0}, {7, 3}};
        for (int[] pair : remainders) {
            for (int remainder = 0; remainder <= 3; remainder++) {
                int want = remainder == pair[1] ? 1 : -10;
                String what = pair[0] + " and " + remainder;
                due.is("argument and value " + what, called(pair[0], 5, remainder).verify(2, 1, 0, 1), want);
                due.is("value and argument " + what, called(remainder, 5, pair[0]).verify(2, 1, 0, 1), want);
            }
        }
    }

    private static void theBufferHolds(Due due) {
        MockBook book = new MockBook();
        for (int held = 1; held <= 3; held++) {
            book.matcher(0, 0);
            due.is("count(5)", book.count(5), held);
        }
        book.matcher(0, 0);
        due.is("count(5) after a fourth matcher", book.count(5), 3);
        book.drop();
        due.is("count(5) after drop", book.count(5), 0);
    }

    private static void noneAtFirst(Due due) {
        due.is("count(5) of a new book", new MockBook().count(5), 0);
        due.is("rule(0, 0) of a new book", new MockBook().rule(0, 0), 0);
        due.is("first matcher of a new book", new MockBook().matcher(0, 0), 1);
    }

    private static MockBook holding(int held) {
        MockBook book = new MockBook();
        Books.anyMatchers(book, held);
        return book;
    }

    private static void suits(Due due) {
        for (int held = 0; held <= 3; held++) {
            for (int method = 0; method <= 7; method++) {
                boolean suits = method == held || method == held + 4;
                String what = "(3, " + method + ", ..) by " + held + " matchers";
                due.is("rule" + what, holding(held).rule(3, method), suits ? 0 : -1);
                due.is("verify" + what, holding(held).verify(3, method, 0, 0), suits ? 0 : -1);
                due.is("inOrder" + what, holding(held).inOrder(3, method), suits ? -10 : -1);
            }
        }
    }

    /** Each argument has a matcher of another kind, and in each place all but one of the arguments are tried. */
    private static void everyArgument(Due due) {
        int[] fitting = {5, -3, 11};
        for (int wrong = 0; wrong < 8; wrong++) {
            int a = (wrong & 1) == 0 ? fitting[0] : 6;
            int b = (wrong & 2) == 0 ? fitting[1] : -2;
            int c = (wrong & 4) == 0 ? fitting[2] : 10;
            String what = " of " + a + ", " + b + ", " + c;
            MockBook book = new MockBook();
            threeMatchers(book);
            book.rule(0, 3);
            book.call(0, 3, a, b, c);
            due.is("rule" + what, book.noted(0, 8), wrong == 0 ? 0 : -1);
            threeMatchers(book);
            due.is("inOrder" + what, book.inOrder(0, 3), wrong == 0 ? 0 : -10);
            threeMatchers(book);
            due.is("verify" + what, book.verify(0, 3, 0, 1), wrong == 0 ? 1 : -10);
        }
    }

    private static void threeMatchers(MockBook book) {
        book.matcher(1, 5);
        book.matcher(3, -2);
        book.matcher(4, 10);
    }

    private static void emptyBufferFitsAll(Due due) {
        MockBook book = new MockBook();
        book.rule(1, 4);
        for (int i = 0; i < NUMBERS.length; i++) {
            book.call(1, 4, NUMBERS[i], i, -i);
            due.is("rule of a call without arguments", book.noted(i, 8), 0);
            due.is("inOrder of a call without arguments", book.inOrder(1, 4), i);
        }
        due.is("verify of calls without arguments", book.verify(1, 4, 0, NUMBERS.length), NUMBERS.length);
    }
}
