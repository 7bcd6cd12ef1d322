import java.io.IOException;
import java.io.UncheckedIOException;
import java.lang.reflect.Executable;
import java.lang.reflect.Field;
import java.lang.reflect.Modifier;
import java.nio.file.Files;
import java.nio.file.Path;
import java.util.ArrayList;
import java.util.Arrays;
import java.util.Collections;
import java.util.List;
import java.util.regex.Pattern;
import java.util.stream.Stream;

/**
 * The rules of LANGUAGE.md, as far as they can be seen in the file's text, in the compiled class or by calls; rule 1
 * is looked at in FaceTest. It is run from the project's own place, as .ci/run does.
 */
public final class LanguageTest {
    private static final Path MAIN = Path.of("src/main/java");
    private static final int[] NUMBERS = {Books.LEAST, -33, -10, -2, -1, 0, 1, 2, 3, 4, 5, 7, 8, 9, 23, 24, 31, 32, 159,
        160, Books.GREATEST};

    public static void main(String[] args) {
        Sentences rules = new Sentences();
        rules.says("The program is one file .. without a package line", LanguageTest::oneFile);
        rules.says("2: No inner class that isn't static, no local or anonymous class, no lambda, no method reference",
            LanguageTest::classesInside);
        rules.says("4: The library: only what stands here", LanguageTest::imports);
        rules.says("5: Static fields are final .. no static initialiser block", LanguageTest::staticFields);
        rules.says("6: No throw, try, catch, synchronized, assert", LanguageTest::words);
        rules.says("7: No call may ever throw or fail to end, for any arguments in any state", LanguageTest::anyCall);
        rules.says("11: A method takes at most seven parameters", LanguageTest::parameters);
        rules.says("11: at most some twelve classes, and a class some twenty fields beside its constants",
            LanguageTest::sizes);
        rules.says("13: the same calls always give the same answers", LanguageTest::sameAnswers);
        rules.end();
    }

    /** The file without its comments, which may use any word. */
    private static String code() {
        try {
            String text = Files.readString(MAIN.resolve("MockBook.java"));
            return text.replaceAll("(?s)/\\*.*?\\*/", " ").replaceAll("//[^\n]*", " ");
        } catch (IOException missing) {
            throw new UncheckedIOException(missing);
        }
    }

    private static List<Class<?>> classes() {
        List<Class<?>> found = new ArrayList<>(List.of(MockBook.class));
        Collections.addAll(found, MockBook.class.getDeclaredClasses());
        return found;
    }

    private static void isWithout(Due due, String code, String pattern) {
        due.holds("no " + pattern, !Pattern.compile(pattern).matcher(code).find());
    }

    private static void oneFile(Due due) {
        try (Stream<Path> files = Files.walk(MAIN)) {
            due.is("files under " + MAIN, files.filter(Files::isRegularFile).count(), 1);
        } catch (IOException missing) {
            throw new UncheckedIOException(missing);
        }
        isWithout(due, code(), "\\bpackage\\b");
    }

    private static void classesInside(Due due) {
        for (Class<?> inside : MockBook.class.getDeclaredClasses()) {
            due.holds("static " + inside.getName(), Modifier.isStatic(inside.getModifiers()));
            due.is("classes in " + inside.getName(), inside.getDeclaredClasses().length, 0);
        }
        String code = code();
        // Every class of the text is one that the compiled class declares: no local one is left over.
        int declared = code.split("\\b(class|enum|record|interface)\\s+\\w", -1).length - 1;
        due.is("classes in the text", declared, classes().size());
        isWithout(due, code, "new\\s+\\w+(<\\w*>)?\\s*\\([^()]*\\)\\s*\\{");
        isWithout(due, code, "->");
        isWithout(due, code, "::");
    }

    private static void imports(Due due) {
        String code = code();
        isWithout(due, code, "\\bimport\\s+(?!java\\.util\\.(ArrayList|List|Arrays|Iterator)\\s*;)");
        isWithout(due, code.replaceAll("\\bimport\\s[^;]*;", ""), "\\bjavax?\\s*\\.");
        isWithout(due, code, "\\b(System\\s*\\.\\s*(?!arraycopy\\b)|Thread\\b|Runtime\\b|\\w+Exact\\b)");
    }

    private static void staticFields(Due due) {
        for (Class<?> one : classes()) {
            for (Field field : one.getDeclaredFields()) {
                if (Modifier.isStatic(field.getModifiers())) {
                    due.holds("final " + field.getName(), Modifier.isFinal(field.getModifiers()));
                }
            }
        }
        isWithout(due, code(), "\\bstatic\\s*\\{");
    }

    private static void words(Due due) {
        String code = code();
        for (String word : new String[] {"throws?", "try", "catch", "finally", "synchronized", "assert", "hashCode"}) {
            isWithout(due, code, "\\b" + word + "\\b");
        }
    }

    private static void anyCall(Due due) {
        for (State state : State.values()) {
            for (int a : NUMBERS) {
                for (int b : NUMBERS) {
                    MockBook book = state.book();
                    manyWays(book, a, b);
                    due.is("rewind() at the end", book.rewind(), -1);
                }
            }
        }
    }

    private static void manyWays(MockBook book, int a, int b) {
        book.matcher(a, b);
        book.rule(a, b);
        book.drop();
        book.then(a, b, b);
        book.then(b, a, 9);
        book.strict(a, b > 0);
        book.call(a, b, b, a, 1);
        book.call(b, a, a, a, b);
        book.verify(a, b, 1, b);
        book.verify(b, 0, a, a);
        book.inOrder(a, b);
        book.noted(a, b);
        book.noted(b, a);
        book.answer(a);
        book.about(a, b);
        book.about(b, a);
        book.count(a);
        book.open(a);
        book.open(b);
        book.unused();
        book.rewind();
        book.reset(b);
        book.call(1, 7, a, b, 0);
        book.rule(1, 4);
    }

    private static void parameters(Due due) {
        for (Class<?> one : classes()) {
            List<Executable> found = new ArrayList<>(List.of(one.getDeclaredMethods()));
            Collections.addAll(found, one.getDeclaredConstructors());
            for (Executable method : found) {
                due.holds("at most seven for " + method, method.getParameterCount() <= 7);
            }
        }
    }

    private static void sizes(Due due) {
        due.holds("at most twelve classes", classes().size() <= 12);
        for (Class<?> one : classes()) {
            long fields = Stream.of(one.getDeclaredFields()).filter(f -> !Modifier.isStatic(f.getModifiers())).count();
            due.holds("at most twenty fields in " + one.getName(), fields <= 20);
        }
    }

    private static void sameAnswers(Due due) {
        for (int seed = 0; seed < 20; seed++) {
            long[] once = new long[400];
            long[] again = new long[400];
            TermsRefusedTest.replay(seed, once.length, once);
            TermsRefusedTest.replay(seed, again.length, again);
            due.holds("the same answers again for the seed " + seed, Arrays.equals(once, again));
        }
    }
}
