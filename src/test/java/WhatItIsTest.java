/** "What it is", the first section of the document. */
public final class WhatItIsTest {
    public static void main(String[] args) {
        Sentences section = new Sentences();
        section.says("Stand-ins for four objects: rules say what their methods answer", WhatItIsTest::rulesSay);
        section.says("calls are matched against them and noted", WhatItIsTest::matchedAndNoted);
        section.says("may be passed on to other methods", WhatItIsTest::passedOn);
        section.says("and are checked afterwards, one by one", WhatItIsTest::checkedOneByOne);
        section.says("or in order", WhatItIsTest::checkedInOrder);
        section.says("An object is used for at most 512 calls", WhatItIsTest::allCallsOfAnObject);
        section.end();
    }

    /** No two of the 32 methods may answer for one another; a book has room for 24 rules, so there are two books. */
    private static void rulesSay(Due due) {
        for (int first = 0; first < 32; first += 16) {
            MockBook book = new MockBook();
            for (int i = first; i < first + 16; i++) {
                book.then(Books.ruleForAll(book, i / 8, i % 8), 0, 100 + i);
            }
            for (int i = 0; i < 32; i++) {
                boolean isRuled = i >= first && i < first + 16;
                due.is("call of the method " + i % 8 + " of the mock " + i / 8,
                    book.call(i / 8, i % 8, 1, 2, 3), isRuled ? 100 + i : 0);
            }
        }
    }

    private static void matchedAndNoted(Due due) {
        MockBook book = new MockBook();
        book.matcher(1, 5);
        book.then(book.rule(2, 1), 0, 50);
        book.matcher(1, 6);
        book.then(book.rule(2, 1), 0, 60);
        due.is("call with 6", book.call(2, 1, 6, 0, 0), 60);
        due.is("call with 5", book.call(2, 1, 5, 0, 0), 50);
        due.is("call with 7", book.call(2, 1, 7, 0, 0), 0);
        long[] rules = {1, 0, -1};
        long[] arguments = {6, 5, 7};
        for (int i = 0; i < rules.length; i++) {
            due.is("noted(" + i + ", 8)", book.noted(i, 8), rules[i]);
            due.is("noted(" + i + ", 2)", book.noted(i, 2), arguments[i]);
        }
    }

    private static void passedOn(Due due) {
        MockBook book = Books.withAction(0, 2, 4, 29);
        book.then(Books.ruleForAll(book, 3, 5), 1, 0);
        due.is("call that is passed on", book.call(0, 2, 17, 18, 0), 17);
        due.is("mock of the passed call", book.noted(1, 0), 3);
        due.is("method of the passed call", book.noted(1, 1), 5);
        due.is("interactions", book.count(0), 2);
    }

    private static void checkedOneByOne(Due due) {
        MockBook book = new MockBook();
        Books.callOften(book, 2, 1, 0);
        Books.callOften(book, 1, 1, 4);
        due.is("open before", book.open(1), 0);
        due.is("verify of the method 0", book.verify(1, 0, 0, 2), 2);
        due.is("open between", book.open(1), 2);
        due.is("verify of the method 4", book.verify(1, 4, 0, 1), 1);
        due.is("open afterwards", book.open(1), -10);
    }

    private static void checkedInOrder(Due due) {
        MockBook book = new MockBook();
        book.call(1, 0, 0, 0, 0);
        book.call(3, 4, 0, 0, 0);
        book.call(1, 0, 0, 0, 0);
        due.is("the first", book.inOrder(1, 0), 0);
        due.is("the second", book.inOrder(3, 4), 1);
        due.is("the third", book.inOrder(1, 0), 2);
        due.is("no second again", book.inOrder(3, 4), -10);
    }

    /** 512 calls and not one more: 3, 160, 160, 2 * 90 and 9. */
    private static void allCallsOfAnObject(Due due) {
        MockBook book = new MockBook();
        due.is("matcher(0, 0)", book.matcher(0, 0), 1);
        due.is("rule(0, 1)", book.rule(0, 1), 0);
        due.is("then(0, 1, 0)", book.then(0, 1, 0), 1);
        for (int i = 0; i < 160; i++) {
            due.is("call(0, 1, " + i + ", 0, 0)", book.call(0, 1, i, 0, 0), i);
        }
        for (int i = 0; i < 160; i++) {
            due.is("answer(" + i + ")", book.answer(i), i);
        }
        for (int i = 0; i < 90; i++) {
            due.is("matcher(1, " + i + ")", book.matcher(1, i), 1);
            due.is("inOrder(0, 1)", book.inOrder(0, 1), i);
        }
        due.is("count(0)", book.count(0), 160);
        due.is("count(1)", book.count(1), 160);
        due.is("count(2)", book.count(2), 90);
        due.is("open(0)", book.open(0), 90);
        due.is("rewind()", book.rewind(), 89);
        due.is("unused()", book.unused(), -10);
        due.is("about(0, 1)", book.about(0, 1), 160);
        due.is("reset(0)", book.reset(0), 160);
        due.is("count(1), the 512th call", book.count(1), 0);
    }
}
