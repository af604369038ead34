import java.lang.reflect.Method;

/** A long run of calls on one object: each call as words, with the answer that is due (a boolean counts 1 or 0). */
final class Script {
    /** What an object answers beyond so many calls is free, so a run that would ask more is wrong itself. */
    static final int CALLS_MOST = 512;
    private static final Method[] FACE = RouteWall.class.getMethods();

    private final RouteWall x = new RouteWall();
    private final String name;
    private int calls;

    Script(String name) {
        this.name = name;
    }

    /** The call answers so, and its STATUS is 0. */
    void due(String call, long want) {
        Check.due(name + ", call " + (calls + 1) + ": " + call, answer(call), want);
        status(call, 0);
    }

    /** As due(), for runs that have no calls left for every status(). */
    void only(String call, long want) {
        Check.due(name + ", call " + (calls + 1) + ": " + call, answer(call), want);
    }

    /** The call gives NONE or false, and its STATUS is so. */
    void refused(String call, int status) {
        Method method = method(call.split(" "));
        long want = method.getReturnType() == boolean.class ? 0 : RouteWall.NONE;
        Check.due(name + ", call " + (calls + 1) + ": " + call, answer(call), want);
        status(call, status);
    }

    /** The call once for each answer, with 0, 1, 2 .. in the place of #. */
    void row(String call, long... wants) {
        for (int i = 0; i < wants.length; i++) {
            due(call.replace("#", String.valueOf(i)), wants[i]);
        }
    }

    void load(String text, int rounds) {
        feed(text);
        due("load " + text.length(), rounds);
    }

    void faulty(String text, int kind, int place) {
        feed(text);
        refused("load " + text.length(), 10);
        only("fault 0", kind);
        only("fault 1", place);
    }

    void feed(String text) {
        for (int i = 0; i < text.length(); i += 20) {
            StringBuilder call = new StringBuilder("feed");
            for (int k = 0; k < 5; k++) {
                call.append(' ').append(Texts.four(text, i + 4 * k));
            }
            only(call.toString(), i + 20);
        }
    }

    void end() {
        Check.due(name + " has at most " + CALLS_MOST + " calls: " + calls, calls <= CALLS_MOST, true);
    }

    private void status(String call, int want) {
        Check.due(name + ", call " + calls + ": status() behind " + call, answer("status"), want);
    }

    private static Method method(String[] words) {
        for (Method method : FACE) {
            if (method.getName().equals(words[0]) && method.getParameterCount() == words.length - 1) {
                return method;
            }
        }
        throw new IllegalArgumentException("no such call: " + String.join(" ", words));
    }

    private long answer(String call) {
        String[] words = call.split(" ");
        Method method = method(words);
        Object[] arguments = new Object[words.length - 1];
        for (int i = 0; i < arguments.length; i++) {
            String word = words[i + 1];
            if (method.getParameterTypes()[i] == boolean.class) {
                arguments[i] = Boolean.valueOf(word);
            } else {
                arguments[i] = Integer.valueOf(word);
            }
        }
        calls++;
        try {
            Object got = method.invoke(x, arguments);
            return got instanceof Boolean ? ((Boolean) got ? 1 : 0) : ((Number) got).longValue();
        } catch (ReflectiveOperationException e) {
            throw new IllegalStateException(name + ": " + call, e);
        }
    }
}
