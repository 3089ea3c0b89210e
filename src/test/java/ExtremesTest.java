import java.lang.reflect.InvocationTargetException;
import java.lang.reflect.Method;
import java.lang.reflect.Modifier;
import java.util.Arrays;
import java.util.Set;

/** No call throws, in any state and for any numbers: each act with all that stand at an edge, one with another. */
public final class ExtremesTest {
    private static final int MIN = Integer.MIN_VALUE;
    private static final int MAX = Integer.MAX_VALUE;
    private static final int[] EDGES = {MIN, MIN + 1, -1000000001, -100, -11, -2, -1, 0, 1, 2, 3, 4, 5, 6, 7, 8, 9, 10,
        11, 12, 16, 19, 20, 21, 23, 24, 25, 32, 59, 60, 61, 69, 70, 125, 126, 129, 130, 9999, MAX - 1, MAX};
    private static final int[] FEWER_EDGES = {MIN, -1, 0, 1, 2, 3, 4, 8, 12, 24, 25, MAX};
    private static final Set<String> ANY_NUMBER = Set.of("furrowIs", "law", "seed", "meaning", "voice", "count");

    private ExtremesTest() {
    }

    public static void main(String[] args) throws IllegalAccessException {
        for (Method act : FurrowTalk.class.getDeclaredMethods()) {
            if (Modifier.isPublic(act.getModifiers())) {
                for (int state = 0; state < States.ALL; state++) {
                    allEdges(act, state);
                }
            }
        }
        Checks.end();
    }

    private static void allEdges(Method act, int state) throws IllegalAccessException {
        int n = act.getParameterCount();
        int[] edges = n > 3 ? FEWER_EDGES : EDGES;
        int all = 1;
        for (int i = 0; i < n; i++) {
            all *= edges.length;
        }
        FurrowTalk x = States.made(state);
        FurrowTalk twin = States.made(state);
        for (int call = 0; call < all && Checks.allRight(); call++) {
            Object[] given = new Object[n];
            int rest = call;
            for (int i = 0; i < n; i++) {
                int edge = edges[rest % edges.length];
                rest /= edges.length;
                given[i] = act.getParameterTypes()[i] == long.class ? (Object) (long) edge : (Object) edge;
            }
            String what = act.getName() + Arrays.toString(given) + " in state " + state;
            int answer = answer(what, act, x, given);
            Checks.due(what + ", once more", answer(what, act, twin, given), answer);
            if (!ANY_NUMBER.contains(act.getName())) {
                boolean told = answer >= Checks.LOW - 6 && answer != Checks.LOW;
                Checks.due(what + " is no such ERROR: " + answer, told ? 1 : 0, 1);
            }
        }
    }

    private static int answer(String what, Method act, FurrowTalk x, Object[] given) throws IllegalAccessException {
        try {
            return (int) act.invoke(x, given);
        } catch (InvocationTargetException e) {
            Checks.due(what + " threw " + e.getCause(), 1, 0);
            return 0;
        }
    }
}
