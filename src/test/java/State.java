import java.util.function.Supplier;
import java.util.function.ToLongFunction;

/**
 * States that a book can be in when a call is refused. What is looked at after the refused call must be what is
 * looked at without it.
 */
enum State {
    NEW(MockBook::new, 0, 0, 0),
    IN_USE(State::inUse, 25, 4, 1),
    FULL(State::full, 160, 24, 3),
    RESET(State::reset, 25, 4, 2);

    final int interactions;
    final int rules;
    final int held;
    private final Supplier<MockBook> maker;
    private final String look;

    State(Supplier<MockBook> maker, int interactions, int rules, int held) {
        this.maker = maker;
        this.interactions = interactions;
        this.rules = rules;
        this.held = held;
        this.look = Look.at(maker);
    }

    MockBook book() {
        return maker.get();
    }

    /** A test that counts on a state must not pass when the book never came into it. */
    private void isReached(Due due) {
        due.is("interactions in the state " + name(), maker.get().count(0), interactions);
        due.is("rules in the state " + name(), maker.get().count(3), rules);
        due.is("matchers in the state " + name(), maker.get().count(5), held);
    }

    /** The call is refused in this state, and changes nothing. */
    void refuses(Due due, String what, ToLongFunction<MockBook> call, long want) {
        isReached(due);
        due.is(what + " in the state " + name(), call.applyAsLong(maker.get()), want);
        due.holds(what + " changing nothing in the state " + name(), look.equals(Look.at(() -> after(call))));
    }

    private MockBook after(ToLongFunction<MockBook> call) {
        MockBook book = maker.get();
        call.applyAsLong(book);
        return book;
    }

    /** The call is refused in every state, and changes nothing. */
    static void allRefuse(Due due, String what, ToLongFunction<MockBook> call, long want) {
        for (State state : values()) {
            state.refuses(due, what, call, want);
        }
    }

    /** Rules with every kind of action, calls of all mocks, some verified, some ended, a mark, one matcher held. */
    private static MockBook inUse() {
        MockBook book = new MockBook();
        book.then(Books.ruleForAll(book, 0, 3), 4, 9);
        book.matcher(1, 3);
        book.then(book.rule(1, 1), 1, 0);
        book.then(1, 2, 0);
        book.then(1, 3, 7);
        book.rule(2, 0);
        book.then(2, 0, 12);
        book.rule(3, 0);
        book.strict(1, true);
        book.strict(3, true);
        for (int i = 0; i < 5; i++) {
            book.call(0, 3, i, 0, 0);
            book.call(1, 1, i + 2, 0, 0);
            book.call(2, 4, 0, 0, 0);
            book.call(3, 0, 0, 0, 0);
        }
        book.reset(3);
        book.matcher(4, 3);
        book.verify(1, 1, 1, 0);
        book.inOrder(2, 4);
        book.matcher(1, 3);
        return book;
    }

    /** No room for another interaction, rule or matcher, nor for an action of rule 0. */
    private static MockBook full() {
        MockBook book = new MockBook();
        Books.ruleForAll(book, 0, 3);
        for (int kind = 0; kind <= 3; kind++) {
            book.then(0, kind, kind % 3);
        }
        Books.rulesOften(book, 23, 1);
        for (int i = 0; i < 150; i++) {
            book.call(0, 3, i % 5, i % 3, i % 4);
        }
        Books.callOften(book, 10, 2, 0);
        book.inOrder(2, 0);
        book.matcher(1, 3);
        book.matcher(2, 1);
        book.matcher(5, 1);
        return book;
    }

    /** All that was made is no longer live; two matchers are held. */
    private static MockBook reset() {
        MockBook book = inUse();
        for (int mock = 0; mock <= 3; mock++) {
            book.reset(mock);
        }
        book.matcher(3, 2);
        return book;
    }
}
