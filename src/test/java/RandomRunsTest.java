import java.lang.reflect.Method;
import java.lang.reflect.Modifier;
import java.util.Set;
import java.util.TreeSet;

/** Promises 1 to 20 together: runs of calls at random, each answer compared with Model's. */
public final class RandomRunsTest {
    private static final int RUNS = 400;

    public static void main(String[] args) {
        Set<String> seen = new TreeSet<>();
        int runs = args.length == 0 ? RUNS : Integer.parseInt(args[0]);
        for (int run = 0; run < runs; run++) {
            new Walk(run, seen).go();
        }
        everythingCameUp(seen);
        Check.end();
    }

    /** Otherwise the runs would tell nothing about what did not come up in them. */
    private static void everythingCameUp(Set<String> seen) {
        for (Method method : ChallengeAuthority.class.getDeclaredMethods()) {
            if (Modifier.isPublic(method.getModifiers())) {
                cameUp(seen, method.getName());
                for (Class<?> thrown : method.getExceptionTypes()) {
                    cameUp(seen, method.getName() + " " + thrown.getName());
                }
            }
        }
    }

    private static void cameUp(Set<String> seen, String what) {
        Check.holds("in some run: " + what, seen.contains(what));
    }
}
