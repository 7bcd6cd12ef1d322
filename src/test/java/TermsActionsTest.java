/** The terms: what the actions of a rule do, and which of them is done. */
public final class TermsActionsTest {
    private static final int[] NUMBERS = {0, 1, -1, -2, -10, 31, 32, Books.GREATEST, Books.LEAST};

    public static void main(String[] args) {
        Sentences terms = new Sentences();
        terms.says("0 GIVE v", TermsActionsTest::give);
        terms.says("1 ARGUMENT: the argument v (from 0)", TermsActionsTest::argument);
        terms.says("2 USES: how often the rule was used before", TermsActionsTest::uses);
        terms.says("3 FAIL with the code v", TermsActionsTest::fail);
        terms.says("4 PASS to the method v % 8 of the mock v / 8", TermsActionsTest::pass);
        terms.says("that method is called with the first so many of the call's arguments",
            TermsActionsTest::passedArguments);
        terms.says("and its answer is the answer", TermsActionsTest::passedAnswer);
        terms.says("a failure too", TermsActionsTest::passedFailure);
        terms.says("the rule's action is done whose place (from 0) is its uses", TermsActionsTest::inTurn);
        terms.says("or its last one if there are not so many", TermsActionsTest::theLastOne);
        terms.says("(without actions: GIVE 0)", TermsActionsTest::withoutActions);
        terms.says("and before that the uses are one more", TermsActionsTest::usesBeforeTheAction);
        terms.says("Numbers are given as themselves", TermsActionsTest::asThemselves);
        terms.says("a failure with the code v is FAILED + v", TermsActionsTest::codes);
        terms.end();
    }

    private static void give(Due due) {
        for (int value : NUMBERS) {
            due.is("GIVE " + value, Books.withAction(0, 0, 0, value).call(0, 0, 5, 6, 7), value);
            due.is("GIVE " + value + " with arguments", Books.withAction(3, 7, 0, value).call(3, 7, 5, 6, 7), value);
        }
    }

    private static void argument(Due due) {
        int[] arguments = {-7, Books.GREATEST, Books.LEAST};
        for (int method = 0; method <= 7; method++) {
            for (int place = 0; place < method % 4; place++) {
                MockBook book = Books.withAction(2, method, 1, place);
                long got = book.call(2, method, arguments[0], arguments[1], arguments[2]);
                due.is("ARGUMENT " + place + " of the method " + method, got, arguments[place]);
            }
        }
    }

    private static void uses(Due due) {
        MockBook book = Books.withAction(0, 0, 2, 99);
        for (int i = 0; i < 160; i++) {
            due.is("USES in call " + i, book.call(0, 0, 0, 0, 0), i);
        }
        MockBook later = Books.withAction(0, 0, 0, 50);
        later.then(0, 2, 99);
        due.is("GIVE before USES", later.call(0, 0, 0, 0, 0), 50);
        due.is("USES after GIVE", later.call(0, 0, 0, 0, 0), 1);
    }

    private static void fail(Due due) {
        for (int code : new int[] {0, 1, -1, 7}) {
            MockBook book = Books.withAction(0, 0, 3, code);
            due.is("FAIL with " + code, book.call(0, 0, 0, 0, 0), 40000000000L + code);
            due.is("FAIL with " + code + " again", book.call(0, 0, 0, 0, 0), 40000000000L + code);
        }
    }

    private static void pass(Due due) {
        for (int target = 0; target < 32; target++) {
            MockBook book = Books.withAction(1, 3, 4, target);
            int met = Books.ruleForAll(book, target / 8, target % 8);
            book.then(met, 0, 500 + target);
            boolean toItself = target == 11;
            due.is("PASS to " + target, book.call(1, 3, 1, 2, 3), 500 + target);
            due.is("mock of the last call", book.noted(toItself ? 0 : 1, 0), target / 8);
            due.is("method of the last call", book.noted(toItself ? 0 : 1, 1), target % 8);
            // The second rule hides the first if both are for the same method: nothing is passed then.
            due.is("interactions", book.count(0), toItself ? 1 : 2);
        }
    }

    private static void passedArguments(Due due) {
        for (int from = 0; from <= 7; from++) {
            for (int to = 0; to <= 7; to++) {
                if (to % 4 <= from % 4) {
                    MockBook book = Books.withAction(0, from, 4, 8 + to);
                    book.call(0, from, 41, 42, 43);
                    for (int place = 0; place <= 2; place++) {
                        String what = "argument " + place + ", passed from " + from + " to " + to;
                        due.is(what, book.noted(1, 2 + place), place < to % 4 ? 41 + place : 0);
                    }
                }
            }
        }
    }

    private static void passedAnswer(Due due) {
        for (int value : NUMBERS) {
            MockBook book = Books.withAction(0, 0, 4, 8);
            book.then(book.rule(1, 0), 0, value);
            bothAnswer(due, book, value);
        }
        bothAnswer(due, Books.withAction(0, 0, 4, 8), 0);
        MockBook strict = Books.withAction(0, 0, 4, 8);
        strict.strict(1, true);
        bothAnswer(due, strict, 20000000000L);
        MockBook itself = Books.withAction(0, 0, 4, 8);
        itself.then(itself.rule(1, 0), 4, 8);
        bothAnswer(due, itself, 20000000001L);
    }

    private static void bothAnswer(Due due, MockBook book, long want) {
        due.is("PASS to a method that answers " + want, book.call(0, 0, 0, 0, 0), want);
        due.is("answer of the call that passes", book.answer(0), want);
        due.is("answer of the passed call", book.answer(1), want);
    }

    private static void passedFailure(Due due) {
        for (int code : NUMBERS) {
            MockBook book = Books.withAction(0, 0, 4, 8);
            book.then(book.rule(1, 0), 3, code);
            bothAnswer(due, book, 40000000000L + code);
        }
        MockBook far = Books.withAction(0, 0, 4, 8);
        far.then(far.rule(1, 0), 4, 16);
        far.then(far.rule(2, 0), 4, 24);
        far.then(far.rule(3, 0), 3, 9);
        bothAnswer(due, far, 40000000009L);
        due.is("answer of the call that fails", far.answer(3), 40000000009L);
    }

    private static void inTurn(Due due) {
        MockBook book = new MockBook();
        book.rule(3, 4);
        for (int i = 0; i < 4; i++) {
            book.then(0, 0, 100 + i);
        }
        for (int i = 0; i < 4; i++) {
            due.is("call " + i + " of 4 actions", book.call(3, 4, 0, 0, 0), 100 + i);
        }
        MockBook later = Books.withAction(0, 0, 0, 5);
        Books.callOften(later, 2, 0, 0);
        later.then(0, 0, 6);
        later.then(0, 0, 7);
        due.is("third call, by actions added since", later.call(0, 0, 0, 0, 0), 7);
        later.then(0, 0, 8);
        due.is("fourth call", later.call(0, 0, 0, 0, 0), 8);
    }

    private static void theLastOne(Due due) {
        for (int actions = 1; actions <= 4; actions++) {
            MockBook book = new MockBook();
            book.rule(3, 4);
            for (int i = 0; i < actions; i++) {
                book.then(0, 0, 100 + i);
            }
            for (int i = 0; i < 7; i++) {
                String what = "call " + i + " of " + actions + " actions";
                due.is(what, book.call(3, 4, 0, 0, 0), 100 + Math.min(i, actions - 1));
            }
        }
        MockBook skipped = new MockBook();
        skipped.rule(0, 0);
        Books.callOften(skipped, 6, 0, 0);
        skipped.then(0, 0, 1);
        skipped.then(0, 0, 2);
        due.is("seventh call, by two actions added since", skipped.call(0, 0, 0, 0, 0), 2);
    }

    private static void withoutActions(Due due) {
        MockBook book = new MockBook();
        Books.ruleForAll(book, 1, 3);
        book.strict(1, true);
        for (int i = 0; i < 5; i++) {
            due.is("call " + i + " by a rule without actions", book.call(1, 3, 5, 6, 7), 0);
            due.is("its rule", book.noted(i, 8), 0);
            due.is("uses", book.about(0, 1), i + 1);
        }
    }

    /** A call that is passed back to the rule that passes it finds that rule used once more. */
    private static void usesBeforeTheAction(Due due) {
        MockBook book = Books.withAction(0, 0, 4, 0);
        book.then(0, 4, 0);
        book.then(0, 0, 33);
        due.is("two PASSes to itself, then a GIVE", book.call(0, 0, 0, 0, 0), 33);
        due.is("uses", book.about(0, 1), 3);
        MockBook counting = Books.withAction(0, 0, 4, 0);
        counting.then(0, 2, 0);
        due.is("a PASS to itself, then USES", counting.call(0, 0, 0, 0, 0), 1);
        due.is("USES once more", counting.call(0, 0, 0, 0, 0), 2);
    }

    private static void asThemselves(Due due) {
        for (int number : NUMBERS) {
            due.is("GIVE " + number, Books.withAction(0, 0, 0, number).call(0, 0, 0, 0, 0), number);
            due.is("ARGUMENT " + number, Books.withAction(0, 1, 1, 0).call(0, 1, number, 0, 0), number);
        }
    }

    private static void codes(Due due) {
        long[][] answers = {{0, 40000000000L}, {Books.GREATEST, 42147483647L}, {Books.LEAST, 37852516352L},
            {-1, 39999999999L}, {1, 40000000001L}};
        for (long[] pair : answers) {
            MockBook book = Books.withAction(0, 0, 3, (int) pair[0]);
            due.is("FAIL with " + pair[0], book.call(0, 0, 0, 0, 0), pair[1]);
            due.is("its answer kept", book.answer(0), pair[1]);
        }
    }
}
