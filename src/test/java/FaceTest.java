import java.lang.reflect.Constructor;
import java.lang.reflect.Field;
import java.lang.reflect.Method;
import java.lang.reflect.Modifier;
import java.util.Arrays;
import java.util.Set;
import java.util.TreeSet;

/** The public face of the document, and rule 1 of LANGUAGE.md: no other member can be seen from outside. */
public final class FaceTest {
    private static final String[] FACE = {
        "int FULL", "int REFUSED", "long FAILED", "long NONE", "long TOO_DEEP", "long UNEXPECTED",
        "MockBook()",
        "int matcher(int, int)", "void drop()", "int rule(int, int)", "int then(int, int, int)",
        "int strict(int, boolean)", "long call(int, int, int, int, int)", "int verify(int, int, int, int)",
        "int inOrder(int, int)", "int rewind()", "int open(int)", "int unused()", "int reset(int)",
        "long noted(int, int)", "long answer(int)", "int about(int, int)", "int count(int)",
    };

    public static void main(String[] args) {
        Sentences face = new Sentences();
        face.says("The public face", FaceTest::theFace);
        face.says("each constant with its value", FaceTest::theConstants);
        face.says("LANGUAGE.md 1: the classes inside it, which are private or package-visible and static",
            FaceTest::classesInside);
        face.says("LANGUAGE.md 1: No private method bears the name of a public one", FaceTest::namesOfPrivateMethods);
        face.end();
    }

    private static String parameters(Class<?>[] types) {
        String[] names = Arrays.stream(types).map(Class::getName).toArray(String[]::new);
        return "(" + String.join(", ", names) + ")";
    }

    private static void theFace(Due due) {
        Set<String> seen = new TreeSet<>();
        for (Field field : MockBook.class.getDeclaredFields()) {
            if (!Modifier.isPrivate(field.getModifiers())) {
                seen.add(field.getType().getName() + " " + field.getName());
                due.is("modifiers of " + field.getName(), field.getModifiers(),
                    Modifier.PUBLIC | Modifier.STATIC | Modifier.FINAL);
            }
        }
        for (Constructor<?> constructor : MockBook.class.getDeclaredConstructors()) {
            seen.add("MockBook" + parameters(constructor.getParameterTypes()));
            due.is("modifiers of the constructor", constructor.getModifiers(), Modifier.PUBLIC);
        }
        for (Method method : MockBook.class.getDeclaredMethods()) {
            if (!Modifier.isPrivate(method.getModifiers())) {
                seen.add(method.getReturnType().getName() + " " + method.getName()
                    + parameters(method.getParameterTypes()));
                due.is("modifiers of " + method.getName(), method.getModifiers(), Modifier.PUBLIC);
            }
        }
        due.holds("the face " + seen, seen.equals(new TreeSet<>(Arrays.asList(FACE))));
        due.is("modifiers of the class", MockBook.class.getModifiers(), Modifier.PUBLIC | Modifier.FINAL);
    }

    private static void namesOfPrivateMethods(Due due) {
        Set<String> open = new TreeSet<>();
        for (Method method : MockBook.class.getMethods()) {
            open.add(method.getName());
        }
        for (Method method : MockBook.class.getDeclaredMethods()) {
            if (Modifier.isPrivate(method.getModifiers())) {
                due.holds("a name of its own for " + method.getName(), !open.contains(method.getName()));
            }
        }
    }

    private static void classesInside(Due due) {
        due.is("classes that can be seen from outside", MockBook.class.getClasses().length, 0);
        for (Class<?> inside : MockBook.class.getDeclaredClasses()) {
            int modifiers = inside.getModifiers();
            due.holds("private or package-visible " + inside.getName(),
                !Modifier.isPublic(modifiers) && !Modifier.isProtected(modifiers));
            due.holds("static " + inside.getName(), Modifier.isStatic(modifiers));
        }
    }

    private static void theConstants(Due due) {
        due.is("REFUSED", MockBook.REFUSED, -1);
        due.is("FULL", MockBook.FULL, -2);
        due.is("UNEXPECTED", MockBook.UNEXPECTED, 20000000000L);
        due.is("TOO_DEEP", MockBook.TOO_DEEP, 20000000001L);
        due.is("FAILED", MockBook.FAILED, 40000000000L);
        due.is("NONE", MockBook.NONE, 60000000000L);
    }
}
