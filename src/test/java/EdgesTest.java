import java.lang.reflect.Method;
import java.util.ArrayList;
import java.util.List;

/** Every call with every mix of numbers at the edges, in four states: no call throws, each answers and changes as Model. */
public final class EdgesTest {
    private static final int[] EDGES = {Integer.MIN_VALUE, -103, -2, -1, 0, 1, 2, 3, 4, 5, 7, 8, 9, 10, 16, 17, 20, 21,
        64, 65, 200, 201, 0x3f800000, 0x41000000, 0x41000001, 0xc1000000, 0x7f800000, 0x7fc00000, Integer.MAX_VALUE};
    private static final int[] FEW = {Integer.MIN_VALUE, -1, 0, 1, 3, 4, 8, 0x7fc00000, Integer.MAX_VALUE};
    private static final Checks checks = new Checks();

    public static void main(String[] args) throws ReflectiveOperationException {
        for (Method method : ScoreThreads.class.getDeclaredMethods()) {
            if (java.lang.reflect.Modifier.isPublic(method.getModifiers())) {
                Method told = Model.class.getDeclaredMethod(method.getName(), method.getParameterTypes());
                for (Object[] arguments : mixes(method.getParameterTypes())) {
                    for (int state = 0; state < 4; state++) {
                        compare(method, told, arguments, state);
                    }
                }
            }
        }
        oneObjectForAll();
        checks.finish();
    }

    /** Behind its 512th call an object may answer as it likes, but must not throw. */
    private static void oneObjectForAll() throws ReflectiveOperationException {
        ScoreThreads x = new ScoreThreads();
        long calls = 0;
        for (int round = 0; round < 3; round++) {
            for (Method method : ScoreThreads.class.getDeclaredMethods()) {
                if (java.lang.reflect.Modifier.isPublic(method.getModifiers())) {
                    for (Object[] arguments : mixes(method.getParameterTypes())) {
                        method.invoke(x, arguments);
                        calls++;
                    }
                }
            }
        }
        checks.due("far more than 512 calls", calls > 512 ? 1 : 0, 1);
    }

    private static List<Object[]> mixes(Class<?>[] types) {
        List<Object[]> mixes = new ArrayList<>();
        mixes.add(new Object[types.length]);
        for (int i = 0; i < types.length; i++) {
            List<Object[]> more = new ArrayList<>();
            for (Object[] mix : mixes) {
                for (Object value : values(types[i], types.length > 2 ? FEW : EDGES)) {
                    Object[] longer = mix.clone();
                    longer[i] = value;
                    more.add(longer);
                }
            }
            mixes = more;
        }
        return mixes;
    }

    private static List<Object> values(Class<?> type, int[] edges) {
        List<Object> values = new ArrayList<>();
        if (type == boolean.class) {
            values.addAll(List.of(false, true));
        } else if (type == long.class) {
            values.addAll(List.of(0L, -1L, 0x7ff0000000000000L, 0x7ff8000000000000L, Long.MIN_VALUE, 77L));
        } else {
            for (int edge : edges) {
                values.add(edge);
            }
        }
        return values;
    }

    private static void compare(Method method, Method told, Object[] arguments, int state)
            throws ReflectiveOperationException {
        ScoreThreads x = new ScoreThreads();
        Model model = new Model();
        prepare(x, model, state);
        String call = method.getName() + List.of(arguments) + " in state " + state;
        checks.due(call, ((Number) method.invoke(x, arguments)).longValue(),
                ((Number) told.invoke(model, arguments)).longValue());
        checks.due("digest behind " + call, x.digest(), model.digest());
        for (int f = 1; f <= 6; f++) {
            checks.due("found behind " + call, x.found(f), model.found(f));
        }
        for (int what = 0; what <= 10; what++) {
            checks.due("about behind " + call, x.about(what), model.about(what));
        }
    }

    /** 0: new; 1: clips, plugs and a CHAIN; 2: in a RUN; 3: behind a RUN. */
    private static void prepare(ScoreThreads x, Model model, int state) {
        if (state == 0) {
            return;
        }
        int line = Checks.bits(0.5);
        both(x.clip(3, 8), model.clip(3, 8));
        both(x.clip(0, 4), model.clip(0, 4));
        both(x.number(0, 3, 1, line), model.number(0, 3, 1, line));
        both(x.plug(0, line, 0), model.plug(0, line, 0));
        both(x.plug(4, line, 3), model.plug(4, line, 3));
        both(x.track(0, 0, 0, false), model.track(0, 0, 0, false));
        both(x.chain(0, 1, 1), model.chain(0, 1, 1));
        both(x.pure(1, true), model.pure(1, true));
        both(x.on(0, true), model.on(0, true));
        both(x.on(1, true), model.on(1, true));
        if (state > 1) {
            both(x.render(2), model.render(2));
            int turns = state == 2 ? 8 : 200;
            both(x.rounds(0, turns), model.rounds(0, turns));
        }
    }

    private static void both(int got, int want) {
        checks.due("to prepare", got, want);
    }
}
