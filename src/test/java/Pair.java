import java.lang.reflect.Method;
import java.lang.reflect.Modifier;
import java.util.ArrayList;
import java.util.Arrays;
import java.util.HashMap;
import java.util.List;
import java.util.Map;
import java.util.Set;

/**
 * The class and the Model side by side: every call goes to both. What an object answers beyond 512 calls is free, so
 * when it has had as many, a new one gets all calls of the run that may change something, and the run goes on with it.
 */
final class Pair {
    static final int CALLS_MOST = 512;
    /** So many that a new object still has calls left to be asked. */
    static final int MOVES_MOST = 480;
    private static final Map<String, Method> FACE = face();
    private static final Map<String, Method> MODEL = model();
    private static final Set<String> QUESTIONS = Set.of("fault", "told", "now", "tried", "seen", "ready", "of", "key",
        "rank", "order", "parts", "choose");
    private static final Set<String> WITHOUT_STATUS = Set.of("feed", "fault");

    record Move(Method method, Object[] arguments) {
        long on(Object object) {
            try {
                Object got = method.invoke(object, arguments);
                return got instanceof Boolean ? ((Boolean) got ? 1 : 0) : ((Number) got).longValue();
            } catch (ReflectiveOperationException e) {
                throw new IllegalStateException(method.getName() + Arrays.toString(arguments), e);
            }
        }
    }

    final Model m = new Model();
    private final String run;
    private final List<Move> moves = new ArrayList<>();
    private RouteWall x = new RouteWall();
    private int calls;

    Pair(String run) {
        this.run = run;
    }

    /** Whether the run has no place for another change. */
    boolean isFull() {
        return moves.size() >= MOVES_MOST;
    }

    void call(String name, Object... arguments) {
        boolean asks = QUESTIONS.contains(name);
        if (!asks && isFull()) {
            return;
        }
        Move move = new Move(FACE.get(name), arguments);
        String told = run + ": " + name + Arrays.toString(arguments);
        long want = new Move(MODEL.get(name), arguments).on(m);
        if (calls + 2 > CALLS_MOST) {
            takeNewObject();
        }
        Check.due(told, move.on(x), want);
        calls++;
        if (!WITHOUT_STATUS.contains(name)) {
            Check.due(told + ", status()", x.status(), m.status);
            calls++;
        }
        if (!asks) {
            moves.add(move);
        }
    }

    private void takeNewObject() {
        x = new RouteWall();
        for (Move move : moves) {
            move.on(x);
        }
        calls = moves.size();
    }

    private static Map<String, Method> face() {
        Map<String, Method> all = new HashMap<>();
        for (Method method : RouteWall.class.getDeclaredMethods()) {
            if (Modifier.isPublic(method.getModifiers())) {
                all.put(method.getName(), method);
            }
        }
        return all;
    }

    /** The Model has each call under the same name with the same arguments. */
    private static Map<String, Method> model() {
        Map<String, Method> all = new HashMap<>();
        for (Method method : FACE.values()) {
            try {
                all.put(method.getName(), Model.class.getDeclaredMethod(method.getName(), method.getParameterTypes()));
            } catch (NoSuchMethodException e) {
                if (!method.getName().equals("status")) {
                    throw new IllegalStateException(e);
                }
            }
        }
        return all;
    }
}
