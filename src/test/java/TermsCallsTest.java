/** The terms: how calls are noted, what limits a PASS, and what is kept of interactions. */
public final class TermsCallsTest {
    public static void main(String[] args) {
        Sentences terms = new Sentences();
        terms.says("A CALL is noted as an INTERACTION with the next number (0, 1, .. for all mocks together)",
            TermsCallsTest::numbers);
        terms.says("arguments (those that are not taken count as 0)", TermsCallsTest::argumentsNotTaken);
        terms.says("a call made from outside has depth 0 and from -1", TermsCallsTest::fromOutside);
        terms.says("one made by PASS the depth of the call that passes it, plus one", TermsCallsTest::depths);
        terms.says("and that call's number", TermsCallsTest::froms);
        terms.says("a mock that is STRICT .. answers UNEXPECTED", TermsCallsTest::strictMocks);
        terms.says("STRICT (none at first)", TermsCallsTest::noneIsStrictAtFirst);
        terms.says("any other gives 0", TermsCallsTest::otherMocks);
        terms.says("A PASS in a call of depth 3 .. calls and notes nothing more: the answer is TOO_DEEP",
            TermsCallsTest::passAtDepth3);
        terms.says("A PASS in a call of depth 3 (any other action is done there)",
            TermsCallsTest::otherActionsAtDepth3);
        terms.says("A PASS in a call of depth 3 (not 2, 1, 0)", TermsCallsTest::passAboveDepth3);
        terms.says("or when 160 interactions were noted", TermsCallsTest::passWithoutRoom);
        terms.says("when 160 interactions were noted (not 159)", TermsCallsTest::passIntoTheLastPlace);
        terms.says("An interaction keeps its answer", TermsCallsTest::keptAnswers);
        terms.says("Interactions are LIVE until their mock is reset", TermsCallsTest::live);
        terms.says("and VERIFIED or not, at first not", TermsCallsTest::notVerifiedAtFirst);
        terms.says("THE MARK is the number of an interaction, or -1 (at first)", TermsCallsTest::theMark);
        terms.end();
    }

    private static void numbers(Due due) {
        MockBook book = new MockBook();
        for (int i = 0; i < 160; i++) {
            book.call(i % 4, i / 4 % 8, 1, 2, 3);
            due.is("mock of the interaction " + i, book.noted(i, 0), i % 4);
        }
        due.is("count(0)", book.count(0), 160);
        MockBook passing = Books.withAction(2, 0, 4, 28);
        for (int i = 0; i < 160; i += 2) {
            passing.call(2, 0, 0, 0, 0);
            due.is("method of the interaction " + i, passing.noted(i, 1), 0);
            due.is("method of the interaction " + (i + 1), passing.noted(i + 1, 1), 4);
        }
    }

    private static void argumentsNotTaken(Due due) {
        for (int method = 0; method <= 7; method++) {
            MockBook book = Books.withCall(0, method, Books.LEAST, -1, Books.GREATEST);
            for (int place = method % 4; place <= 2; place++) {
                due.is("argument " + place + " of the method " + method, book.noted(0, 2 + place), 0);
            }
        }
        // What a method doesn't take is lost to all that comes after it, too.
        MockBook book = Books.withAction(0, 1, 4, 9);
        book.call(0, 1, 5, 6, 7);
        due.is("b of a passed call", book.noted(1, 3), 0);
        due.is("c of a passed call", book.noted(1, 4), 0);
    }

    private static void fromOutside(Due due) {
        MockBook book = Books.withAction(0, 0, 4, 8);
        int[] outside = {0, 2, 4};
        for (int number : outside) {
            book.call(0, 0, 0, 0, 0);
            due.is("depth of " + number, book.noted(number, 5), 0);
            due.is("from of " + number, book.noted(number, 6), -1);
        }
        book.call(1, 0, 0, 0, 0);
        due.is("depth of a call without a rule", book.noted(6, 5), 0);
        due.is("from of a call without a rule", book.noted(6, 6), -1);
    }

    /** Passes from mock 0 to 1, 2 and 3, each by a rule of its own. */
    private static MockBook chain() {
        MockBook book = Books.withAction(0, 0, 4, 8);
        book.then(book.rule(1, 0), 4, 16);
        book.then(book.rule(2, 0), 4, 24);
        return book;
    }

    private static void depths(Due due) {
        MockBook book = chain();
        book.call(0, 0, 0, 0, 0);
        book.call(2, 0, 0, 0, 0);
        int[] depths = {0, 1, 2, 3, 0, 1};
        due.is("count(0)", book.count(0), depths.length);
        for (int i = 0; i < depths.length; i++) {
            due.is("depth of " + i, book.noted(i, 5), depths[i]);
        }
    }

    private static void froms(Due due) {
        MockBook book = chain();
        book.call(3, 0, 0, 0, 0);
        book.call(0, 0, 0, 0, 0);
        book.call(1, 0, 0, 0, 0);
        int[] froms = {-1, -1, 1, 2, 3, -1, 5, 6};
        due.is("count(0)", book.count(0), froms.length);
        for (int i = 0; i < froms.length; i++) {
            due.is("from of " + i, book.noted(i, 6), froms[i]);
        }
    }

    private static void strictMocks(Due due) {
        MockBook book = new MockBook();
        for (int mock = 0; mock <= 3; mock++) {
            book.strict(mock, true);
            for (int method = 0; method <= 7; method++) {
                due.is("call of a strict mock", book.call(mock, method, 1, 2, 3), 20000000000L);
            }
        }
        due.is("count(0): such calls are noted", book.count(0), 32);
        book.rule(0, 0);
        due.is("call of a strict mock that has a rule", book.call(0, 0, 0, 0, 0), 0);
    }

    private static void noneIsStrictAtFirst(Due due) {
        for (int mock = 0; mock <= 3; mock++) {
            due.is("strict(" + mock + ", true) of a new book", new MockBook().strict(mock, true), 0);
            due.is("call of the mock " + mock + " of a new book", new MockBook().call(mock, 3, 1, 2, 3), 0);
        }
    }

    private static void otherMocks(Due due) {
        for (int strict = 0; strict <= 3; strict++) {
            MockBook book = new MockBook();
            book.strict(strict, true);
            for (int mock = 0; mock <= 3; mock++) {
                long want = mock == strict ? 20000000000L : 0;
                due.is("call of " + mock + " when " + strict + " is strict", book.call(mock, 1, 9, 9, 9), want);
            }
            book.strict(strict, false);
            due.is("call of " + strict + " when no longer strict", book.call(strict, 1, 9, 9, 9), 0);
        }
    }

    private static void passAtDepth3(Due due) {
        MockBook book = chain();
        book.then(book.rule(3, 0), 4, 4);
        due.is("call", book.call(0, 0, 0, 0, 0), 20000000001L);
        due.is("count(0)", book.count(0), 4);
        due.is("uses of the rule whose PASS is too deep", book.about(3, 1), 1);
        for (int i = 0; i < 4; i++) {
            due.is("answer(" + i + ")", book.answer(i), 20000000001L);
        }
        MockBook itself = Books.withAction(0, 0, 4, 0);
        for (int calls = 1; calls <= 40; calls++) {
            due.is("call that is passed to itself", itself.call(0, 0, 0, 0, 0), 20000000001L);
            due.is("count(0)", itself.count(0), 4 * calls);
            due.is("uses", itself.about(0, 1), 4 * calls);
        }
    }

    private static void otherActionsAtDepth3(Due due) {
        long[] answers = {77, 0, 0, 40000000077L};
        for (int kind = 0; kind <= 3; kind++) {
            if (kind != 1) {
                MockBook book = chain();
                book.then(book.rule(3, 0), kind, 77);
                due.is("action of kind " + kind + " at depth 3", book.call(0, 0, 0, 0, 0), answers[kind]);
            }
        }
        MockBook strict = chain();
        strict.strict(3, true);
        due.is("no rule at depth 3", strict.call(0, 0, 0, 0, 0), 20000000000L);
        MockBook argument = Books.withAction(0, 1, 4, 9);
        argument.then(Books.ruleForAll(argument, 1, 1), 4, 17);
        argument.then(Books.ruleForAll(argument, 2, 1), 4, 25);
        argument.then(Books.ruleForAll(argument, 3, 1), 1, 0);
        due.is("ARGUMENT at depth 3", argument.call(0, 1, -8, 0, 0), -8);
    }

    private static void passAboveDepth3(Due due) {
        MockBook book = chain();
        book.strict(3, true);
        for (int first = 2; first >= 0; first--) {
            int before = book.count(0);
            due.is("call of the mock " + first, book.call(first, 0, 0, 0, 0), 20000000000L);
            due.is("interactions more", book.count(0) - before, 4 - first);
        }
    }

    private static void passWithoutRoom(Due due) {
        MockBook book = Books.withAction(0, 0, 4, 8);
        Books.callOften(book, 159, 1, 0);
        due.is("PASS when 160 were noted", book.call(0, 0, 0, 0, 0), 20000000001L);
        due.is("count(0)", book.count(0), 160);
        due.is("answer(159)", book.answer(159), 20000000001L);
        due.is("uses", book.about(0, 1), 1);
        MockBook further = chain();
        further.strict(3, true);
        Books.callOften(further, 157, 1, 4);
        due.is("PASS at depth 2 when 160 were noted", further.call(0, 0, 0, 0, 0), 20000000001L);
        due.is("uses of the rule that passed last", further.about(2, 1), 1);
        for (int i = 157; i < 160; i++) {
            due.is("answer(" + i + ")", further.answer(i), 20000000001L);
        }
        MockBook reset = Books.withAction(0, 0, 4, 8);
        Books.callOften(reset, 159, 1, 0);
        reset.reset(1);
        due.is("PASS when 160 were noted, not all live", reset.call(0, 0, 0, 0, 0), 20000000001L);
    }

    private static void passIntoTheLastPlace(Due due) {
        MockBook book = Books.withAction(0, 0, 4, 8);
        book.strict(1, true);
        Books.callOften(book, 158, 2, 0);
        due.is("PASS when 159 were noted", book.call(0, 0, 0, 0, 0), 20000000000L);
        due.is("count(0)", book.count(0), 160);
        due.is("mock of the interaction 159", book.noted(159, 0), 1);
    }

    private static void keptAnswers(Due due) {
        MockBook book = Books.withAction(0, 0, 0, -5);
        book.then(0, 3, 5);
        book.then(0, 2, 0);
        book.then(0, 4, 8);
        book.strict(1, true);
        Books.callOften(book, 4, 0, 0);
        book.then(book.rule(0, 0), 0, 9);
        book.strict(1, false);
        Books.callOften(book, 1, 0, 0);
        Books.callOften(book, 1, 1, 0);
        book.verify(0, 0, 1, 0);
        book.reset(0);
        book.reset(1);
        long[] answers = {-5, 40000000005L, 2, 20000000000L, 20000000000L, 9, 0};
        for (int i = 0; i < answers.length; i++) {
            due.is("answer(" + i + ")", book.answer(i), answers[i]);
        }
    }

    private static void live(Due due) {
        MockBook book = new MockBook();
        for (int mock = 0; mock <= 3; mock++) {
            book.call(mock, 0, 0, 0, 0);
        }
        for (int reset = 0; reset <= 3; reset++) {
            for (int i = 0; i <= 3; i++) {
                due.is("noted(" + i + ", 9) before reset " + reset, book.noted(i, 9), i < reset ? 0 : 1);
            }
            book.verify(reset, 0, 0, 1);
            book.reset(reset);
        }
        book.call(0, 0, 0, 0, 0);
        due.is("noted(4, 9) of a call after the resets", book.noted(4, 9), 1);
    }

    private static void notVerifiedAtFirst(Due due) {
        MockBook book = Books.withAction(0, 0, 4, 8);
        book.verify(0, 0, 0, 0);
        for (int i = 0; i < 80; i++) {
            book.call(0, 0, 0, 0, 0);
            due.is("noted(" + 2 * i + ", 7)", book.noted(2 * i, 7), 0);
            due.is("noted(" + (2 * i + 1) + ", 7) of a passed call", book.noted(2 * i + 1, 7), 0);
        }
        due.is("count(2)", book.count(2), 0);
    }

    private static void theMark(Due due) {
        due.is("rewind() of a new book", new MockBook().rewind(), -1);
        MockBook called = Books.withCall(0, 0, 0, 0, 0);
        due.is("rewind() after a call", called.rewind(), -1);
        MockBook first = Books.withCall(0, 0, 0, 0, 0);
        due.is("inOrder of the interaction 0", first.inOrder(0, 0), 0);
        due.is("rewind() at 0", first.rewind(), 0);
        MockBook last = new MockBook();
        Books.callOften(last, 159, 0, 0);
        Books.callOften(last, 1, 1, 0);
        due.is("inOrder of the interaction 159", last.inOrder(1, 0), 159);
        due.is("rewind() at 159", last.rewind(), 159);
    }
}
