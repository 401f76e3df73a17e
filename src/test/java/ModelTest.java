import java.util.Random;

/** Long runs of calls on the class and on Model, whose answers must be the same. The seeds are fixed. */
public final class ModelTest {
    private static final Checks checks = new Checks();
    private static final int RUNS = 3000, CALLS = 512;

    private final Random chance;
    private final int run;
    private final ScoreThreads x = new ScoreThreads();
    private final Model model = new Model();
    private int calls = 0;

    private ModelTest(int run) {
        this.run = run;
        this.chance = new Random(run);
    }

    public static void main(String[] args) {
        for (int run = 0; run < RUNS && checks.wrong() == 0; run++) {
            new ModelTest(run).play();
        }
        checks.finish();
    }

    private void due(String call, long got, long want) {
        calls++;
        checks.due("run " + run + ", call " + calls + ": " + call, got, want);
    }

    /** Mostly a number of 0 .. n - 1, at times one at or beyond the edges. */
    private int about(int n) {
        int kind = chance.nextInt(40);
        if (kind == 0) {
            return -1 - chance.nextInt(2);
        }
        if (kind == 1) {
            return n + chance.nextInt(2);
        }
        return kind == 2 && chance.nextInt(10) == 0 ? chance.nextInt() : chance.nextInt(Math.max(n, 1));
    }

    private int floatBits() {
        float[] some = {0.0f, -0.0f, 1.0f, -1.0f, 0.5f, 8.0f, -8.0f, 1e-40f, -1e-38f, 0.1f, 2.0f, Float.NaN, 8.000001f};
        int kind = chance.nextInt(10);
        if (kind < 3) {
            return Float.floatToRawIntBits(some[chance.nextInt(some.length)]);
        }
        return kind == 3 ? chance.nextInt() : Float.floatToRawIntBits((chance.nextFloat() - 0.5f) * 8.0f);
    }

    private long word(int lane) {
        if (lane == 3) {
            return floatBits();
        }
        if (lane == 4 && chance.nextInt(4) != 0) {
            return Double.doubleToRawLongBits((chance.nextDouble() - 0.5) * 10.0);
        }
        return chance.nextLong();
    }

    private void play() {
        for (int i = 0; i < 3; i++) {
            clip();
        }
        for (int i = 0; i < 60; i++) {
            number();
        }
        for (int i = 0; i < 8; i++) {
            plug();
        }
        for (int i = 0; i < 40; i++) {
            edit();
        }
        // number() asks up to six times at once, and digest() comes last
        while (calls < CALLS - 7) {
            anything();
        }
        due("digest", x.digest(), model.digest());
    }

    private void anything() {
        switch (chance.nextInt(12)) {
            case 0 -> edit();
            case 1 -> ask();
            case 2 -> {
                int n = about(5);
                due("render " + n, x.render(n), model.render(n));
            }
            case 3 -> seldom();
            case 4 -> {
                int w = about(2);
                int n = chance.nextInt(30) == 0 ? 180 + chance.nextInt(40) : about(20);
                due("rounds " + w + " " + n, x.rounds(w, n), model.rounds(w, n));
            }
            case 5 -> due("digest", x.digest(), model.digest());
            default -> {
                int w = about(3);
                due("turn " + w, x.turn(w), model.turn(w));
            }
        }
    }

    private void seldom() {
        switch (chance.nextInt(8)) {
            case 0 -> clip();
            case 1 -> plug();
            case 2 -> due("stop", x.stop(), model.stop());
            case 3 -> {
                int n = about(5);
                due("hire " + n, x.hire(n), model.hire(n));
            }
            default -> number();
        }
    }

    private void clip() {
        int lane = about(5);
        int n = chance.nextInt(4) == 0 ? about(65) : 24 + chance.nextInt(41);
        due("clip " + lane + " " + n, x.clip(lane, n), model.clip(lane, n));
    }

    private void number() {
        int c = about(model.about(0));
        int i = about(30);
        // the lane of a CLIP can't be asked for: all but one are refused
        for (int lane = chance.nextInt(2); lane < 5; lane += 1 + chance.nextInt(2)) {
            long word = word(lane);
            due("number " + c + " " + lane + " " + i + " " + word, x.number(c, lane, i, word),
                    model.number(c, lane, i, word));
        }
        due("sample " + c + " " + i, x.sample(c, i), model.sample(c, i));
    }

    private void plug() {
        int kind = about(8);
        int a = floatBits();
        int n = kind == 3 ? about(130) - 65 : kind == 7 ? about(model.about(0)) : about(6);
        due("plug " + kind + " " + a + " " + n, x.plug(kind, a, n), model.plug(kind, a, n));
    }

    private void edit() {
        int t = about(8);
        boolean is = chance.nextInt(3) != 0;
        switch (chance.nextInt(10)) {
            case 0, 1 -> {
                int c = about(model.about(0) + 1) - 1;
                int start = chance.nextInt(10) == 0 ? chance.nextInt() : chance.nextInt(40) - 20;
                boolean strict = chance.nextInt(4) == 0;
                due("track " + t + " " + c + " " + start + " " + strict, x.track(t, c, start, strict),
                        model.track(t, c, start, strict));
            }
            case 2 -> {
                boolean pure = chance.nextInt(3) == 0;
                due("pure " + t + " " + pure, x.pure(t, pure), model.pure(t, pure));
            }
            case 3 -> {
                int bits = floatBits();
                due("level " + t + " " + bits, x.level(t, bits), model.level(t, bits));
            }
            case 4, 5 -> due("on " + t + " " + is, x.on(t, is), model.on(t, is));
            case 6 -> {
                int p = about(model.about(1));
                int n = about(10) - 1;
                due("line " + p + " " + n, x.line(p, n), model.line(p, n));
            }
            default -> {
                int j = about(4);
                int p = about(model.about(1) + 1) - 1;
                due("chain " + t + " " + j + " " + p, x.chain(t, j, p), model.chain(t, j, p));
            }
        }
    }

    private void ask() {
        int i = about(12);
        int what = about(21);
        switch (chance.nextInt(7)) {
            case 0 -> due("plugged " + i + " " + what, x.plugged(i, what), model.plugged(i, what));
            case 1 -> due("out " + i * 20, x.out(i * 20), model.out(i * 20));
            case 2 -> due("told " + i + " " + what, x.told(i, what), model.told(i, what));
            case 3 -> due("worker " + i, x.worker(i), model.worker(i));
            case 4 -> due("fault " + i + " " + what % 6, x.fault(i, what % 6), model.fault(i, what % 6));
            case 5 -> due("found " + i, x.found(i), model.found(i));
            default -> due("about " + i, x.about(i), model.about(i));
        }
    }
}
