import java.lang.reflect.Constructor;
import java.lang.reflect.Field;
import java.lang.reflect.Method;
import java.lang.reflect.Modifier;
import java.util.Set;
import java.util.TreeSet;

/** The document's face and rule 1 of LANGUAGE.md: the class shows this and nothing else. */
public final class FaceTest {
    private static final Set<String> FACE = Set.of(
            "int nonce()", "int power(int,int,int)", "int digest(int,int,int,int,int)",
            "int account(int,int,int)", "int order(int,int,int,int,int)",
            "int answer(int,int,int,int,int)", "int probe(int,int,int)",
            "int finish(int,int,int,int)", "int publish()", "int revoke(int,int,int,int,int)",
            "int deactivate(int,int,int,int)", "int rollover(int,int,int,int,int)",
            "boolean feed(long,int)", "int clear()", "int csr()", "int tick(int)",
            "int there(int)", "int state(int,int)", "int detail(int,int,int)");

    public static void main(String[] args) {
        Class<?> type = ChallengeAuthority.class;
        Check.holds("public and final",
                Modifier.isPublic(type.getModifiers()) && Modifier.isFinal(type.getModifiers()));
        methodsOf(type);
        for (Field field : type.getDeclaredFields()) {
            Check.holds(field + " is private", Modifier.isPrivate(field.getModifiers()));
        }
        for (Constructor<?> made : type.getDeclaredConstructors()) {
            Check.holds(made + " is public", Modifier.isPublic(made.getModifiers()));
            Check.due(made + " parameters", made.getParameterCount(), 1);
        }
        for (Class<?> inside : type.getDeclaredClasses()) {
            Check.holds(inside + " is private and static",
                    Modifier.isPrivate(inside.getModifiers())
                            && Modifier.isStatic(inside.getModifiers()));
            namesApart(inside, type);
        }
        Check.end();
    }

    private static void methodsOf(Class<?> type) {
        Set<String> shown = new TreeSet<>();
        for (Method method : type.getDeclaredMethods()) {
            if (!Modifier.isPrivate(method.getModifiers())) {
                shown.add(told(method));
            }
        }
        Check.holds("the methods are the face's: " + shown, shown.equals(FACE));
        namesApart(type, type);
    }

    private static String told(Method method) {
        StringBuilder all = new StringBuilder();
        for (Class<?> one : method.getParameterTypes()) {
            all.append(all.length() == 0 ? "" : ",").append(one.getName());
        }
        return method.getReturnType().getName() + " " + method.getName() + "(" + all + ")";
    }

    private static void namesApart(Class<?> inside, Class<?> type) {
        for (Method method : inside.getDeclaredMethods()) {
            for (Method shown : type.getMethods()) {
                Check.holds(method + " bears the name of a public method: no",
                        method.equals(shown)
                                || Modifier.isPublic(method.getModifiers())
                                || !method.getName().equals(shown.getName()));
            }
        }
    }
}
