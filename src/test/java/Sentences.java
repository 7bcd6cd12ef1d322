import java.util.function.Consumer;

/**
 * The tests of one part of the document, each named by the words that it tests. Every one of them is run, whatever
 * became of those before it, and says by a line of its own whether its words hold.
 */
final class Sentences {
    private int broken = 0;
    private int tested = 0;

    void says(String words, Consumer<Due> test) {
        Due due = new Due();
        try {
            test.accept(due);
        } catch (RuntimeException | StackOverflowError thrown) {
            due.holds("that no call throws (" + thrown + ")", false);
        }
        tested++;
        if (due.isMet()) {
            System.out.println("    holds   " + words);
        } else {
            broken++;
            System.out.print("    BROKEN  " + words + "\n" + due.told());
        }
    }

    void end() {
        if (broken != 0 || tested == 0) {
            System.exit(1);
        }
    }
}
