/** What several tests do with a book. */
final class Books {
    private Books() {
    }

    static void anyMatchers(MockBook book, int howMany) {
        for (int i = 0; i < howMany; i++) {
            book.matcher(0, 0);
        }
    }

    /** A rule for every call of the method. */
    static int ruleForAll(MockBook book, int mock, int method) {
        anyMatchers(book, method % 4);
        return book.rule(mock, method);
    }

    static void callOften(MockBook book, int times, int mock, int method) {
        for (int i = 0; i < times; i++) {
            book.call(mock, method, 0, 0, 0);
        }
    }

    /** All that can be seen of a book without changing it: all but the mark and what kinds the buffer holds. */
    static String seen(MockBook book) {
        StringBuilder text = new StringBuilder();
        for (int what = 0; what <= 5; what++) {
            text.append(book.count(what)).append(' ');
        }
        for (int number = 0; number < book.count(0); number++) {
            text.append('\n').append(book.answer(number));
            for (int what = 0; what <= 9; what++) {
                text.append(' ').append(book.noted(number, what));
            }
        }
        for (int rule = 0; rule < book.count(3); rule++) {
            text.append('\n');
            for (int what = 0; what <= 2; what++) {
                text.append(book.about(rule, what)).append(' ');
            }
        }
        for (int mock = 0; mock <= 3; mock++) {
            int before = book.strict(mock, true);
            book.strict(mock, before == 1);
            text.append('\n').append(before).append(' ').append(book.open(mock));
        }
        return text.append('\n').append(book.unused()).toString();
    }
}
