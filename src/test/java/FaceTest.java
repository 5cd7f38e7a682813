import java.lang.reflect.Constructor;
import java.lang.reflect.Field;
import java.lang.reflect.Method;
import java.lang.reflect.Modifier;
import java.util.Arrays;
import java.util.Set;
import java.util.TreeSet;
import java.util.stream.Collectors;

/**
 * "The public face", with what each method may throw, and rule 1 of LANGUAGE.md: the class shows
 * this and nothing else.
 */
public final class FaceTest {
    private static final String SIGNED =
            " throws NoSuchElementException,UnsupportedOperationException,"
                    + "IllegalArgumentException,IllegalStateException";
    private static final Set<String> FACE = Set.of(
            "int nonce()", "int power(int,int,int)", "int digest(int,int,int,int,int)",
            "int account(int,int,int) throws UnsupportedOperationException,"
                    + "IllegalArgumentException,IllegalStateException",
            "int order(int,int,int,int,int)" + SIGNED, "int answer(int,int,int,int,int)" + SIGNED,
            "int probe(int,int,int) throws NoSuchElementException,IllegalStateException",
            "int finish(int,int,int,int)" + SIGNED, "int publish()",
            "int revoke(int,int,int,int,int)" + SIGNED, "int deactivate(int,int,int,int)" + SIGNED,
            "int rollover(int,int,int,int,int)" + SIGNED,
            "boolean feed(long,int)", "int clear()", "int csr()",
            "int tick(int) throws IllegalArgumentException", "int there(int)",
            "int state(int,int) throws NoSuchElementException",
            "int detail(int,int,int) throws NoSuchElementException");

    public static void main(String[] args) {
        Class<?> type = ChallengeAuthority.class;
        Check.holds("public and final",
                Modifier.isPublic(type.getModifiers()) && Modifier.isFinal(type.getModifiers()));
        methodsOf(type);
        for (Field field : type.getDeclaredFields()) {
            Check.holds(field + " is private", Modifier.isPrivate(field.getModifiers()));
        }
        for (Constructor<?> made : type.getDeclaredConstructors()) {
            Check.holds(made + " is the face's",
                    Modifier.isPublic(made.getModifiers())
                            && told(made.getParameterTypes()).equals("int")
                            && made.getExceptionTypes().length == 0);
        }
        Check.due("constructors", type.getDeclaredConstructors().length, 1);
        for (Class<?> inside : type.getDeclaredClasses()) {
            Check.holds(inside + " is private and static",
                    Modifier.isPrivate(inside.getModifiers())
                            && Modifier.isStatic(inside.getModifiers()));
            namesApart(inside, type);
        }
        Check.end();
    }

    private static void methodsOf(Class<?> type) {
        Set<String> shown = new TreeSet<>();
        for (Method method : type.getDeclaredMethods()) {
            if (!Modifier.isPrivate(method.getModifiers())) {
                shown.add(told(method));
            }
        }
        Check.holds("the methods are the face's: " + shown, shown.equals(FACE));
        namesApart(type, type);
    }

    private static String told(Method method) {
        String thrown = told(method.getExceptionTypes());
        return method.getReturnType().getName() + " " + method.getName()
                + "(" + told(method.getParameterTypes()) + ")"
                + (thrown.isEmpty() ? "" : " throws " + thrown);
    }

    private static String told(Class<?>... types) {
        return Arrays.stream(types).map(Class::getSimpleName).collect(Collectors.joining(","));
    }

    private static void namesApart(Class<?> inside, Class<?> type) {
        for (Method method : inside.getDeclaredMethods()) {
            for (Method shown : type.getMethods()) {
                Check.holds(method + " bears the name of a public method: no",
                        method.equals(shown)
                                || Modifier.isPublic(method.getModifiers())
                                || !method.getName().equals(shown.getName()));
            }
        }
    }
}
