/** The terms: rules, and which of them a call has. */
public final class TermsRulesTest {
    public static void main(String[] args) {
        Sentences terms = new Sentences();
        terms.says("RULES are numbered 0, 1, .. as they are made", TermsRulesTest::numbers);
        terms.says("at most 24 are made", TermsRulesTest::atMost24);
        terms.says("at most 24 are made (live or not)", TermsRulesTest::resetGivesNoRoom);
        terms.says("A rule is for a mock and a method", TermsRulesTest::forItsMethodAlone);
        terms.says("has the matchers that the buffer held", TermsRulesTest::itsOwnMatchers);
        terms.says("up to 4 ACTIONS", TermsRulesTest::upTo4Actions);
        terms.says("a number of USES, 0 at first", TermsRulesTest::usesAtFirst);
        terms.says("Rules are LIVE until their mock is reset", TermsRulesTest::live);
        terms.says("A call's rule is, of the live rules .., the one with the greatest number",
            TermsRulesTest::theGreatest);
        terms.says("of the live rules", TermsRulesTest::onlyLiveRules);
        terms.says("for its mock and method", TermsRulesTest::greaterOnesOfOtherMethods);
        terms.says("whose matchers its arguments fit", TermsRulesTest::greaterOnesThatDoNotFit);
        terms.end();
    }

    private static void numbers(Due due) {
        MockBook book = new MockBook();
        for (int i = 0; i < 24; i++) {
            Books.anyMatchers(book, i % 8 % 4);
            due.is("rule number " + i, book.rule(i % 4, i % 8), i);
            book.call(0, 0, 0, 0, 0);
            due.is("count(3)", book.count(3), i + 1);
        }
    }

    private static void atMost24(Due due) {
        MockBook book = new MockBook();
        Books.rulesOften(book, 23, 0);
        due.is("the 24th rule", book.rule(3, 0), 23);
        due.is("the 25th rule", book.rule(3, 0), -2);
        due.is("the 25th rule, for another mock", book.rule(1, 4), -2);
        due.is("count(3)", book.count(3), 24);
        due.is("about(24, 0)", book.about(24, 0), -1);
    }

    private static void resetGivesNoRoom(Due due) {
        MockBook book = new MockBook();
        Books.rulesOften(book, 12, 0);
        book.reset(0);
        due.is("a rule after a reset", book.rule(0, 0), 12);
        Books.rulesOften(book, 11, 1);
        book.reset(0);
        book.reset(1);
        due.is("the 25th rule, when none is live", book.rule(0, 0), -2);
        due.is("count(4)", book.count(4), 0);
    }

    private static void forItsMethodAlone(Due due) {
        for (int own = 0; own < 32; own++) {
            MockBook book = new MockBook();
            Books.ruleForAll(book, own / 8, own % 8);
            for (int called = 0; called < 32; called++) {
                book.call(called / 8, called % 8, 0, 0, 0);
                String what = "rule for " + own + " in a call of " + called;
                due.is(what, book.noted(called, 8), called == own ? 0 : -1);
            }
        }
    }

    private static void itsOwnMatchers(Due due) {
        MockBook book = new MockBook();
        for (int i = 0; i < 24; i++) {
            book.matcher(1, i);
            book.then(book.rule(0, 5), 0, 100 + i);
        }
        book.matcher(1, 77);
        for (int i = 0; i < 24; i++) {
            due.is("call of " + i + " with a matcher in the buffer", book.call(0, 5, i, 0, 0), 100 + i);
        }
        book.drop();
        due.is("call of 0 after drop", book.call(0, 5, 0, 0, 0), 100);
        due.is("call of 77", book.call(0, 5, 77, 0, 0), 0);
    }

    private static void upTo4Actions(Due due) {
        MockBook book = new MockBook();
        book.rule(0, 0);
        for (int i = 0; i < 4; i++) {
            due.is("about(0, 0)", book.about(0, 0), i);
            book.then(0, 0, 10 + i);
        }
        book.then(0, 0, 14);
        due.is("about(0, 0) after a fifth action", book.about(0, 0), 4);
        for (int i = 0; i < 6; i++) {
            due.is("call " + i, book.call(0, 0, 0, 0, 0), 10 + Math.min(i, 3));
        }
    }

    private static void usesAtFirst(Due due) {
        MockBook book = Books.withCall(0, 0, 0, 0, 0);
        Books.rulesOften(book, 3, 0);
        for (int rule = 0; rule < 3; rule++) {
            due.is("about(" + rule + ", 1) of a new rule", book.about(rule, 1), 0);
        }
    }

    private static void live(Due due) {
        MockBook book = new MockBook();
        for (int mock = 0; mock <= 3; mock++) {
            book.rule(mock, 0);
        }
        Books.callOften(book, 3, 0, 0);
        for (int reset = 0; reset <= 3; reset++) {
            for (int mock = 0; mock <= 3; mock++) {
                due.is("about(" + mock + ", 2) before reset " + reset, book.about(mock, 2), mock < reset ? 0 : 1);
            }
            book.reset(reset);
        }
        due.is("count(4) in the end", book.count(4), 0);
        due.is("about(4, 2) of a rule made later", book.about(book.rule(0, 0), 2), 1);
    }

    private static void theGreatest(Due due) {
        MockBook book = new MockBook();
        for (int i = 0; i < 24; i++) {
            book.then(book.rule(0, 0), 0, 100 + i);
            due.is("call with " + (i + 1) + " rules", book.call(0, 0, 0, 0, 0), 100 + i);
            due.is("noted(" + i + ", 8)", book.noted(i, 8), i);
        }
    }

    private static void onlyLiveRules(Due due) {
        MockBook book = new MockBook();
        book.then(book.rule(0, 0), 0, 5);
        book.reset(0);
        due.is("call when its one rule isn't live", book.call(0, 0, 0, 0, 0), 0);
        due.is("noted(0, 8)", book.noted(0, 8), -1);
        due.is("uses of the rule", book.about(0, 1), 0);
        book.then(book.rule(0, 0), 0, 6);
        due.is("call by a later rule", book.call(0, 0, 0, 0, 0), 6);
    }

    private static void greaterOnesOfOtherMethods(Due due) {
        MockBook book = Books.withAction(1, 0, 0, 5);
        book.then(book.rule(1, 4), 0, 6);
        book.then(book.rule(2, 0), 0, 7);
        book.then(book.rule(0, 0), 0, 8);
        due.is("call(1, 0, ..)", book.call(1, 0, 0, 0, 0), 5);
        due.is("call(1, 4, ..)", book.call(1, 4, 0, 0, 0), 6);
        due.is("call(2, 0, ..)", book.call(2, 0, 0, 0, 0), 7);
        due.is("call(0, 0, ..)", book.call(0, 0, 0, 0, 0), 8);
    }

    private static void greaterOnesThatDoNotFit(Due due) {
        MockBook book = new MockBook();
        int[][] matchers = {{0, 0}, {4, 10}, {4, 20}, {1, 15}};
        for (int i = 0; i < matchers.length; i++) {
            book.matcher(matchers[i][0], matchers[i][1]);
            book.then(book.rule(1, 5), 0, 100 + i);
        }
        due.is("call that fits rule 0 alone", book.call(1, 5, 10, 0, 0), 100);
        due.is("call that fits rules 0 and 1", book.call(1, 5, 11, 0, 0), 101);
        due.is("call that fits rules 0, 1 and 2", book.call(1, 5, 21, 0, 0), 102);
        due.is("call that fits rules 0, 1 and 3", book.call(1, 5, 15, 0, 0), 103);
    }
}
