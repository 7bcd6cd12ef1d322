import java.io.IOException;
import java.io.UncheckedIOException;
import java.lang.reflect.Field;
import java.lang.reflect.Method;
import java.nio.file.Files;
import java.nio.file.Path;
import java.util.List;
import java.util.regex.Matcher;
import java.util.regex.Pattern;

/** What README.md says of the class. It is run from the project's own place, as .ci/run does. */
public final class ReadmeTest {
    /** A call of the example, and behind it the answer that is due, up to a colon. */
    private static final Pattern CALL = Pattern.compile("book\\.(\\w+)\\((.*)\\); +// ([^:]+)(: .*)?");

    private static final String[] SIGNATURES = {
        "int matcher(int kind, int value)", "void drop()", "int rule(int mock, int method)",
        "int then(int rule, int kind, int value)", "int strict(int mock, boolean on)",
        "long call(int mock, int method, int a, int b, int c)", "int verify(int mock, int method, int mode, int n)",
        "int inOrder(int mock, int method)", "int rewind()", "int open(int mock)", "int unused()",
        "int reset(int mock)", "long noted(int number, int what)", "long answer(int number)",
        "int about(int rule, int what)", "int count(int what)",
    };

    public static void main(String[] args) {
        Sentences readme = new Sentences();
        readme.says("README.md says how to use the class (the example's answers)", ReadmeTest::theExample);
        readme.says("what it says of the class is what the document says (methods)", ReadmeTest::theMethods);
        readme.says("what it says of the class is what the document says (constants)", ReadmeTest::theConstants);
        readme.says("and how to run its tests", ReadmeTest::theTests);
        readme.end();
    }

    private static List<String> lines() {
        try {
            return Files.readAllLines(Path.of("README.md"));
        } catch (IOException missing) {
            throw new UncheckedIOException(missing);
        }
    }

    private static void theExample(Due due) {
        MockBook book = new MockBook();
        for (String line : lines()) {
            if (line.startsWith("book.")) {
                Matcher parts = CALL.matcher(line);
                due.holds("a call and its answer in " + line, parts.matches());
                due.is(line, answerOf(book, parts.group(1), parts.group(2)), valueOf(parts.group(3)));
            }
        }
    }

    private static long answerOf(MockBook book, String name, String arguments) {
        String[] texts = arguments.isEmpty() ? new String[0] : arguments.split(", ");
        Object[] values = new Object[texts.length];
        for (int i = 0; i < texts.length; i++) {
            boolean isTruth = texts[i].equals("true") || texts[i].equals("false");
            values[i] = isTruth ? (Object) Boolean.valueOf(texts[i]) : (Object) Integer.valueOf(texts[i]);
        }
        try {
            return ((Number) methodNamed(name).invoke(book, values)).longValue();
        } catch (ReflectiveOperationException wrong) {
            throw new IllegalArgumentException(name + "(" + arguments + ")", wrong);
        }
    }

    private static Method methodNamed(String name) {
        for (Method method : MockBook.class.getMethods()) {
            if (method.getName().equals(name)) {
                return method;
            }
        }
        throw new IllegalArgumentException(name);
    }

    /** A number, a constant of the class, or a sum of these. */
    private static long valueOf(String answer) {
        long sum = 0;
        for (String part : answer.split(" \\+ ")) {
            sum += part.startsWith("MockBook.") ? constant(part.substring(9)) : Long.parseLong(part);
        }
        return sum;
    }

    private static long constant(String name) {
        try {
            return ((Number) MockBook.class.getField(name).get(null)).longValue();
        } catch (ReflectiveOperationException wrong) {
            throw new IllegalArgumentException(name, wrong);
        }
    }

    private static boolean hasRow(String start) {
        return lines().stream().anyMatch(line -> line.startsWith(start));
    }

    private static void theMethods(Due due) {
        for (String signature : SIGNATURES) {
            due.holds("a row for " + signature, hasRow("| `" + signature + "` | "));
        }
    }

    private static void theConstants(Due due) {
        for (Field field : MockBook.class.getFields()) {
            String start = "| `" + field.getName() + "` | " + constant(field.getName()) + " | ";
            due.holds("a row " + start, hasRow(start));
        }
    }

    private static void theTests(Due due) {
        due.holds("a line .ci/run", lines().contains(".ci/run"));
        due.holds(".ci/run can be run", Files.isExecutable(Path.of(".ci/run")));
    }
}
