import java.util.function.Consumer;
import java.util.function.ToLongFunction;

/**
 * Two studios prepared alike, of which one alone gets a call that is to change nothing: all that can be told of both
 * must be the same, but for found(), and must stay the same when both go on.
 */
final class Twins {
    private final Checks checks;

    Twins(Checks checks) {
        this.checks = checks;
    }

    /** The call is refused, or has a FINDING: want is its answer, and found() counts FINDINGS alone. */
    void refused(String name, Consumer<ScoreThreads> prepare, ToLongFunction<ScoreThreads> call, long want) {
        ScoreThreads x = made(prepare);
        ScoreThreads twin = made(prepare);
        checks.due(name, call.applyAsLong(x), want);
        int finding = want <= -11 && want >= -16 ? (int) (-10 - want) : 0;
        same(name, x, twin, finding);
        checks.due(name + ", going on", goOn(x), goOn(twin));
        same(name + ", going on", x, twin, finding);
    }

    private static ScoreThreads made(Consumer<ScoreThreads> prepare) {
        ScoreThreads x = new ScoreThreads();
        prepare.accept(x);
        return x;
    }

    static long goOn(ScoreThreads x) {
        long begun = x.about(7) == 1 ? 0 : x.render(1);
        return 1000 * begun + x.rounds(0, 200);
    }

    /** Some 180 calls on each, so that an object stays under its 512. */
    void same(String name, ScoreThreads x, ScoreThreads twin, int finding) {
        for (int what = 0; what <= 10; what++) {
            checks.due(name + ": about " + what, x.about(what), twin.about(what));
        }
        for (int f = 1; f <= 6; f++) {
            checks.due(name + ": found " + f, x.found(f), twin.found(f) + (f == finding ? 1 : 0));
        }
        for (int w = 0; w < 4; w++) {
            checks.due(name + ": worker " + w, x.worker(w), twin.worker(w));
        }
        for (int t = 0; t < 8; t++) {
            for (int what = 0; what < 10; what++) {
                checks.due(name + ": told " + t + " " + what, x.told(t, what), twin.told(t, what));
            }
            checks.due(name + ": told " + t + " 20", x.told(t, 20), twin.told(t, 20));
        }
        for (int p = twin.about(1) - 1; p >= 0; p--) {
            for (int what = 0; what < 3; what++) {
                checks.due(name + ": plugged " + p + " " + what, x.plugged(p, what), twin.plugged(p, what));
            }
        }
        for (int c = twin.about(0) - 1; c >= 0; c--) {
            checks.due(name + ": sample " + c + " 0", x.sample(c, 0), twin.sample(c, 0));
            checks.due(name + ": sample " + c + " 7", x.sample(c, 7), twin.sample(c, 7));
        }
        checks.due(name + ": digest", x.digest(), twin.digest());
    }
}
