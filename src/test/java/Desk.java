import java.lang.reflect.Method;
import java.util.Arrays;
import java.util.HashMap;
import java.util.Map;

/** A studio, ScoreThreads or Model, that is called by a call's name, so that both can be told the same plan. */
final class Desk {
    private final Object studio;
    private final Map<String, Method> methods = new HashMap<>();
    private int calls = 0;

    Desk(Object studio) {
        this.studio = studio;
        for (Method method : studio.getClass().getDeclaredMethods()) {
            methods.putIfAbsent(method.getName(), method);
        }
    }

    /** A call: its name, then its numbers. */
    long tell(Object... call) {
        calls++;
        try {
            Object answer = methods.get((String) call[0]).invoke(studio, Arrays.copyOfRange(call, 1, call.length));
            return ((Number) answer).longValue();
        } catch (ReflectiveOperationException e) {
            throw new IllegalStateException(Arrays.toString(call), e);
        }
    }

    int calls() {
        return calls;
    }
}
