import java.util.function.Supplier;

/**
 * All that can be seen of a book, as a text. Many looks would change the book, and all of them together are more than
 * 512 calls, so each is at a book that the maker has made anew.
 */
final class Look {
    private static final int[][] ARGUMENTS = {{3, 1, 1}, {-6, 0, 8}, {0, 2, 5}};

    private final Supplier<MockBook> maker;
    private final StringBuilder text = new StringBuilder();

    private Look(Supplier<MockBook> maker) {
        this.maker = maker;
    }

    static String at(Supplier<MockBook> maker) {
        Look look = new Look(maker);
        look.atCounts();
        look.atMocks();
        look.atInteractions();
        look.atRules();
        look.atTheMark();
        look.atTheBuffer();
        look.atWhatCallsAnswer();
        return look.text.toString();
    }

    private void add(String name, long number) {
        text.append(name).append(number).append('\n');
    }

    private void atCounts() {
        MockBook book = maker.get();
        for (int what = 0; what <= 5; what++) {
            add("count ", book.count(what));
        }
        add("unused ", book.unused());
    }

    private void atMocks() {
        for (int mock = 0; mock <= 3; mock++) {
            add("open ", maker.get().open(mock));
            add("strict ", maker.get().strict(mock, false));
            add("reset ", maker.get().reset(mock));
        }
    }

    private void atInteractions() {
        int made = maker.get().count(0);
        for (int number = 0; number < made; number++) {
            MockBook book = maker.get();
            add("answer ", book.answer(number));
            for (int what = 0; what <= 9; what++) {
                add("noted ", book.noted(number, what));
            }
        }
    }

    private void atRules() {
        MockBook book = maker.get();
        for (int rule = 0; rule < book.count(3); rule++) {
            for (int what = 0; what <= 2; what++) {
                add("about ", book.about(rule, what));
            }
        }
    }

    private void atTheMark() {
        add("rewind ", maker.get().rewind());
    }

    /** The matchers themselves can't be seen, but what fits them: interactions, and later calls by a rule. */
    private void atTheBuffer() {
        int held = maker.get().count(5);
        int made = maker.get().count(0);
        for (int mock = 0; mock <= 3; mock++) {
            for (int method = held; method <= 7; method += 4) {
                MockBook book = maker.get();
                add("verify ", book.verify(mock, method, 2, Integer.MAX_VALUE));
                for (int number = 0; number < made; number++) {
                    add("verified ", book.noted(number, 7));
                }
            }
        }
        for (int[] arguments : ARGUMENTS) {
            MockBook book = maker.get();
            add("rule ", book.rule(2, held));
            book.call(2, held, arguments[0], arguments[1], arguments[2]);
            add("its rule ", book.noted(made, 8));
        }
    }

    private void atWhatCallsAnswer() {
        for (int i = 0; i < 32 * ARGUMENTS.length; i++) {
            int[] arguments = ARGUMENTS[i / 32];
            MockBook book = maker.get();
            for (int time = 0; time < 6; time++) {
                add("call ", book.call(i % 4, i % 32 / 4, arguments[0], arguments[1], arguments[2]));
            }
            add("count ", book.count(0));
        }
    }
}
