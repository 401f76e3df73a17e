/** Promises 13 to 21, 23 and 24: workers, turns, mixing, faults, and what is told. */
public final class RunsTest {
    private static final int UNKNOWN = ScoreThreads.UNKNOWN, OUTSIDE = ScoreThreads.OUTSIDE;
    private static final int STATE = ScoreThreads.STATE, FULL = ScoreThreads.FULL, NONE = ScoreThreads.NONE;
    private static final Checks checks = new Checks();

    private static void due(String call, long got, long want) {
        checks.due(call, got, want);
    }

    public static void main(String[] args) {
        hires();
        renders();
        turnsRefused();
        roundsByTurns();
        stops();
        sharedPlugs();
        twicePlugged();
        emptyChains();
        loads();
        failsAgain();
        failureKeepsState();
        mixes();
        levelsAndZeros();
        editsBetweenBlocks();
        manyFaults();
        toldRefused();
        abouts();
        digests();
        checks.finish();
    }

    private static void hires() {
        ScoreThreads x = new ScoreThreads();
        due("hire 0", x.hire(0), OUTSIDE);
        due("hire 5", x.hire(5), OUTSIDE);
        due("hire 4", x.hire(4), 2);
        due("worker 3", x.worker(3), NONE);
        due("worker 4", x.worker(4), UNKNOWN);
        due("worker -1", x.worker(-1), UNKNOWN);
        due("hire 1", x.hire(1), 4);
        due("worker 1", x.worker(1), UNKNOWN);
        due("workers", x.about(2), 1);
        x.render(1);
        due("hire in a run", x.hire(2), STATE);
        due("hire outside in a run", x.hire(9), OUTSIDE);
        due("still one", x.about(2), 1);
    }

    private static void renders() {
        ScoreThreads x = new ScoreThreads();
        due("render 0", x.render(0), OUTSIDE);
        due("render 9", x.render(9), OUTSIDE);
        for (int k = 0; k < 64; k += 8) {
            if (k == 56) {
                due("7", x.render(7), k);
                due("render in a run", x.render(8), STATE);
                due("outside in a run", x.render(0), OUTSIDE);
                due("7 turns", x.rounds(0, 200), 7);
                due("2 more are too many", x.render(2), FULL);
                due("1 more", x.render(1), 63);
                due("its end", x.turn(0), 4);
            } else {
                due("render " + k, x.render(8), k);
                due("8 turns", x.rounds(1, 8), 8);
            }
        }
        due("no more", x.render(1), FULL);
        due("blocks", x.about(3), 64);
        due("the last sample", x.out(511), 0);
        due("behind it", x.out(512), 0);
    }

    private static void turnsRefused() {
        ScoreThreads x = new ScoreThreads();
        due("turn without a run", x.turn(0), STATE);
        due("turn of 2", x.turn(2), UNKNOWN);
        due("turn of -1", x.turn(-1), UNKNOWN);
        due("rounds without a run", x.rounds(0, 0), STATE);
        due("rounds of 2", x.rounds(2, 201), UNKNOWN);
        due("rounds outside", x.rounds(0, 201), OUTSIDE);
        due("rounds below", x.rounds(1, -1), OUTSIDE);
        due("stop without a run", x.stop(), STATE);
        x.render(1);
        due("turn of 2 in a run", x.turn(2), UNKNOWN);
        due("no rounds", x.rounds(1, 0), 0);
        due("nothing was done", x.about(9) + x.about(10), 0);
    }

    private static ScoreThreads studio(int tracks) {
        ScoreThreads x = new ScoreThreads();
        x.clip(3, 64);
        for (int i = 0; i < 64; i++) {
            x.number(0, 3, i, Checks.bits((i + 1) / 16.0));
        }
        for (int t = 0; t < tracks; t++) {
            x.track(t, 0, t, false);
            x.on(t, true);
        }
        return x;
    }

    private static void roundsByTurns() {
        ScoreThreads x = studio(3);
        x.plug(0, Checks.bits(1), 0);
        x.chain(0, 0, 0);
        x.chain(1, 0, 0);
        x.hire(3);
        x.render(8);
        due("three turns", x.rounds(2, 3), 3);
        due("worker 2 began", x.worker(2), 0);
        due("worker 0 went on", x.worker(0), 1);
        due("worker 1's was done at once", x.worker(1), NONE);
        due("track 2 is done", x.told(2, 20), 3);
        due("worker 0 waits", x.turn(0), 0);
        due("worker 1 waits", x.turn(1), 0);
        due("worker 2 is through", x.turn(2), 1);
        due("no track", x.worker(2), NONE);
        due("worker 0 is through", x.turn(0), 1);
        due("the mix", x.turn(1), 3);
        due("open again", x.told(0, 20), 1);
        due("steps", x.about(9), 6);
        due("waits", x.about(10), 2);
        due("left", x.about(8), 7);
        due("rounds go to the end", x.rounds(0, 200) < 200 ? 1 : 0, 1);
        due("no run", x.about(7), 0);
        due("nothing is open", x.told(0, 20), 0);
    }

    private static void stops() {
        ScoreThreads x = studio(1);
        x.render(5);
        due("mixed", x.rounds(0, 2), 2);
        due("stop", x.stop(), 1);
        due("stop again", x.stop(), 0);
        due("blocks of it that are left", x.about(8), 4);
        due("goes on to the block's end", x.turn(0), 1);
        due("ends there", x.turn(0), 4);
        due("two blocks", x.about(3), 2);
        due("none left", x.about(8), 0);
        due("stop behind it", x.stop(), STATE);
        due("the next run", x.render(2), 2);
        due("is not told to stop", x.rounds(0, 200), 4);
        due("four blocks", x.about(3), 4);
    }

    private static void sharedPlugs() {
        ScoreThreads x = studio(3);
        x.plug(4, Checks.bits(1), 1);
        x.plug(0, Checks.bits(1), 0);
        x.chain(0, 0, 1);
        x.chain(0, 3, 0);
        x.chain(1, 2, 0);
        x.chain(2, 0, 0);
        x.hire(3);
        x.render(1);
        due("0 loads", x.turn(0), 1);
        due("1 loads", x.turn(1), 1);
        due("1 waits", x.turn(1), 0);
        due("2 loads", x.turn(2), 1);
        due("2 waits", x.turn(2), 0);
        due("0 gains", x.turn(0), 1);
        due("1 waits still", x.turn(1), 0);
        due("0 echoes", x.turn(0), 1);
        due("2 waits for 1", x.turn(2), 0);
        due("0 waits for both", x.turn(0), 0);
        due("1 echoes", x.turn(1), 1);
        due("2 echoes", x.turn(2), 1);
        due("the end", x.turn(2), 4);
        due("uses", x.plugged(0, 2), 3);
        due("uses of the gain", x.plugged(1, 2), 1);
    }

    /** Who has a PLUG twice keeps others from it until the second time. */
    private static void twicePlugged() {
        ScoreThreads x = studio(2);
        x.plug(0, Checks.bits(0.5), 0);
        x.plug(1, Checks.bits(1), 0);
        x.chain(0, 0, 0);
        x.chain(0, 1, 1);
        x.chain(0, 2, 0);
        x.chain(0, 3, 1);
        x.chain(1, 0, 0);
        x.render(1);
        due("0 loads", x.turn(0), 1);
        due("1 loads", x.turn(1), 1);
        due("0 goes", x.turn(0), 1);
        due("1 waits", x.turn(1), 0);
        due("0 goes through the other", x.turn(0), 1);
        due("1 waits still", x.turn(1), 0);
        due("0 goes again", x.turn(0), 1);
        due("1 need not wait for the other", x.turn(1), 1);
        due("1 is done", x.told(1, 20), 3);
        due("0 is not", x.told(0, 20), 2);
    }

    private static void emptyChains() {
        ScoreThreads x = studio(2);
        x.on(0, false);
        x.render(1);
        due("not on", x.told(0, 20), 0);
        due("open", x.told(1, 20), 1);
        due("loads", x.turn(0), 1);
        due("done", x.told(1, 20), 3);
        due("no track", x.worker(0), NONE);
        due("end", x.turn(0), 4);
    }

    private static void loads() {
        ScoreThreads x = studio(1);
        x.track(0, 0, -4, false);
        x.render(2);
        x.rounds(0, 200);
        for (int i = 0; i < 16; i++) {
            checks.dueFloat("from -4: " + i, x.out(i), i < 4 ? 0.0f : (i - 3) / 16.0f);
        }
        due("out beyond", x.out(16), 0);
        due("out below", x.out(-1), 0);
        x.track(0, 0, 64 - 16 - 4, false);
        x.render(1);
        x.rounds(0, 200);
        for (int i = 0; i < 8; i++) {
            checks.dueFloat("to the end: " + i, x.out(16 + i), i < 4 ? (61 + i) / 16.0f : 0.0f);
        }
        x.track(0, 0, Integer.MAX_VALUE, false);
        x.render(1);
        x.rounds(0, 200);
        due("a place that wraps is none", x.out(24), 0);
        x.track(0, 0, Integer.MIN_VALUE, true);
        x.render(1);
        due("strict", x.turn(0), 2);
        due("again", x.turn(0), 2);
        due("end", x.turn(0), 4);
        due("index", x.fault(0, 3), 2);
        due("as it was loaded", x.fault(0, 2), -1);
        due("block", x.fault(0, 1), 4);
        x.track(0, 0, 64 - 40 - 8, true);
        x.render(1);
        due("strict, to the last number", x.turn(0), 1);
    }

    /** What fails is done again when nobody has a TRACK, by the least number, then is silent. */
    private static void failsAgain() {
        ScoreThreads x = studio(4);
        x.plug(3, 0, 0);
        x.plug(0, Checks.bits(1), 0);
        x.plug(4, 0, 2);
        x.line(2, -1);
        x.chain(0, 1, 0);
        x.chain(0, 2, 1);
        x.track(1, NONE, 0, false);
        x.chain(1, 0, 1);
        x.chain(2, 0, 1);
        x.chain(2, 3, 2);
        x.chain(3, 0, 1);
        x.render(1);
        due("0 loads", x.turn(0), 1);
        due("1 fails", x.turn(1), 2);
        due("1 failed", x.told(1, 20), 4);
        due("1 is free", x.worker(1), NONE);
        due("2 loads", x.turn(1), 1);
        due("2 waits for 0's gain", x.turn(1), 0);
        due("0 fails", x.turn(0), 2);
        due("2 waits no more", x.turn(1), 1);
        due("3 loads", x.turn(0), 1);
        due("2 fails", x.turn(1), 2);
        due("1 waits as 0 has one", x.turn(1), 0);
        due("3 gains", x.turn(0), 1);
        due("3 is done", x.told(3, 20), 3);
        due("no fault is noted yet", x.about(4), 0);
        due("0 again", x.turn(1), 2);
        due("0 is silent", x.told(0, 20), 5);
        due("1 again", x.turn(0), 2);
        due("2 again", x.turn(0), 2);
        due("2 is silent", x.told(2, 20), 5);
        due("end", x.turn(0), 4);
        int[][] wanted = {{0, 0, 1, 6, 1}, {0, 0, 1, 6, 2}, {1, 0, -1, 1, 1}, {1, 0, -1, 1, 2}, {2, 0, 3, 1, 1},
            {2, 0, 3, 1, 2}};
        for (int i = 0; i < wanted.length; i++) {
            for (int what = 0; what < 5; what++) {
                due("fault " + i + " " + what, x.fault(i, what), wanted[i][what]);
            }
        }
        due("no fault 6", x.fault(6, 0), NONE);
        due("no fault -1", x.fault(-1, 0), NONE);
        due("fault what 5", x.fault(0, 5), OUTSIDE);
        due("fault what -1", x.fault(9, -1), OUTSIDE);
        due("faults", x.about(4), 6);
        due("nothing is found", x.found(1) + x.found(2) + x.found(6), 0);
        due("steps, failed ones too", x.about(9), 12);
        due("waits", x.about(10), 2);
        for (int i = 0; i < 8; i++) {
            checks.dueFloat("track 3 alone " + i, x.out(i), (4 + i) / 16.0f);
        }
    }

    private static void failureKeepsState() {
        ScoreThreads x = studio(2);
        x.clip(3, 34);
        x.plug(4, Checks.bits(0.5), 3);
        x.plug(7, 0, 1);
        x.chain(0, 0, 0);
        x.chain(0, 1, 1);
        x.chain(1, 0, 0);
        x.level(0, Checks.bits(8));
        x.render(1);
        x.rounds(0, 200);
        due("the echo was passed by both", x.plugged(0, 2), 2);
        due("the table by none", x.plugged(1, 2), 0);
        due("at", x.plugged(0, 3), 16 % 3);
        float[] line = new float[3];
        for (int i = 0; i < 16; i++) {
            float sample = (i < 8 ? i + 1 : i - 6) / 16.0f;
            line[i % 3] = sample + 0.5f * line[i % 3];
            if (i >= 8) {
                checks.dueFloat("track 1 alone " + i, x.out(i - 8), line[i % 3]);
            }
        }
        for (int i = 0; i < 3; i++) {
            checks.dueFloat("line " + i, x.plugged(0, 5 + i), line[i]);
        }
    }

    private static void mixes() {
        ScoreThreads x = new ScoreThreads();
        x.clip(3, 64);
        float[][] samples = {
            {5, 0.1f, 1e-8f, 8, 8, -8, 4, 8}, {5, 0.2f, 1, 8, 8, -8, 4, 8}, {-5, 0.3f, -1, -8, 8, 8, 4, 8},
            {-5, 0.4f, 1e-8f, -1, -8, 8, 4, 8}, {3, 0.5f, 1e-8f, 8, -8, 1, 4, 8}, {3, 0.6f, 2e-8f, 8, -8, 2, 4, 8},
            {3, 0.7f, 3e-8f, 8, -8, 3, 4, 8}, {3, 0.8f, 4e-8f, -8, 8, 4, 4, 8}};
        for (int t = 0; t < 8; t++) {
            for (int i = 0; i < 8; i++) {
                x.number(0, 3, 8 * t + i, Float.floatToRawIntBits(samples[t][i]));
            }
            x.track(t, 0, 8 * t, true);
            x.level(t, Checks.bits(t == 3 ? 2.0 : 1.0));
            x.on(t, true);
        }
        x.render(1);
        x.rounds(0, 200);
        for (int i = 0; i < 8; i++) {
            float first = both(both(samples[0][i], samples[1][i]), both(samples[2][i], both(samples[3][i] * 2, 0)));
            float last = both(both(samples[4][i], samples[5][i]), both(samples[6][i], samples[7][i]));
            checks.dueFloat("mix " + i, x.out(i), both(first, last));
        }
    }

    private static float both(float x, float y) {
        return Math.max(-8.0f, Math.min(8.0f, x + y));
    }

    private static void levelsAndZeros() {
        ScoreThreads x = studio(8);
        for (int t = 0; t < 8; t++) {
            x.level(t, Checks.bits(-0.0));
        }
        x.render(1);
        x.rounds(0, 200);
        checks.dueFloat("all are -0.0", x.out(0), -0.0f);
        x.on(5, false);
        x.render(1);
        x.rounds(0, 200);
        checks.dueFloat("one that is not on is 0.0", x.out(8), 0.0f);
    }

    private static void editsBetweenBlocks() {
        ScoreThreads x = studio(1);
        x.plug(0, Checks.bits(2), 0);
        x.render(3);
        x.turn(0);
        x.chain(0, 0, 0);
        x.level(0, Checks.bits(4));
        due("first block", x.turn(0), 3);
        x.on(0, false);
        due("a step", x.turn(0), 1);
        due("through the plug", x.turn(0), 1);
        due("second block", x.turn(0), 3);
        due("off", x.told(0, 20), 0);
        due("third block", x.turn(0), 4);
        for (int i = 0; i < 24; i++) {
            float once = (i + 1) / 16.0f;
            float twice = Math.min(8.0f, once * 2.0f * 4.0f);
            checks.dueFloat("out " + i, x.out(i), i < 8 ? once : i < 16 ? twice : 0.0f);
        }
    }

    private static void manyFaults() {
        ScoreThreads x = new ScoreThreads();
        for (int t = 0; t < 8; t++) {
            x.on(t, true);
        }
        for (int r = 0; r < 4; r++) {
            x.render(2);
            x.rounds(0, 200);
        }
        due("all faults", x.about(4), 128);
        due("the last one noted", x.fault(99, 4), 2);
        due("its track", x.fault(99, 0), 1);
        due("its block", x.fault(99, 1), 6);
        due("more are not noted", x.fault(100, 0), NONE);
        long h = 17;
        for (int i = 0; i < 64; i++) {
            h = 31 * h;
        }
        for (int t = 0; t < 8; t++) {
            h = added(h, 1, -1, 0, 0, Checks.bits(1), 0, -1, -1, -1, -1);
        }
        for (int i = 0; i < 100; i++) {
            h = added(h, i / 2 % 8, i / 16, -1, 1, i % 2 + 1);
        }
        due("only those that are noted", x.digest(), added(h, 8));
    }

    private static void toldRefused() {
        ScoreThreads x = new ScoreThreads();
        due("told 8", x.told(8, 99), UNKNOWN);
        due("told -1", x.told(-1, 0), UNKNOWN);
        due("what 21", x.told(0, 21), OUTSIDE);
        due("what -1", x.told(0, -1), OUTSIDE);
        for (int what = 10; what < 20; what++) {
            due("what " + what, x.told(0, what), -12);
        }
        due("found index", x.found(2), 10);
    }

    private static void abouts() {
        ScoreThreads x = studio(2);
        due("about -1", x.about(-1), OUTSIDE);
        due("about 11", x.about(11), OUTSIDE);
        x.plug(0, 0, 0);
        x.hire(3);
        x.render(4);
        x.turn(0);
        x.turn(1);
        x.on(0, true);
        int[] wanted = {1, 1, 3, 0, 0, 1, 4, 1, 4, 2, 0};
        for (int what = 0; what < wanted.length; what++) {
            due("about " + what, x.about(what), wanted[what]);
        }
    }

    private static long added(long before, long... numbers) {
        long h = before;
        for (long number : numbers) {
            h = 31 * h + number;
        }
        return h;
    }

    private static void digests() {
        ScoreThreads x = new ScoreThreads();
        long h = 17;
        for (int t = 0; t < 8; t++) {
            h = added(h, 0, -1, 0, 0, Checks.bits(1), 0, -1, -1, -1, -1);
        }
        due("digest of a new one", x.digest(), added(h, 0));
        x.clip(3, 1);
        x.number(0, 3, 0, Checks.bits(-1));
        x.plug(0, Checks.bits(2), 0);
        x.plug(4, Checks.bits(1), 3);
        x.plug(5, Checks.bits(1), 1);
        x.line(2, -1);
        x.track(6, 0, 0, false);
        x.chain(6, 0, 0);
        x.chain(6, 2, 1);
        x.track(7, NONE, 9, true);
        x.on(6, true);
        x.on(7, true);
        x.render(1);
        x.rounds(0, 200);
        // the ECHO's a is 1.0, so that -2.0 comes back at every third SAMPLE
        long two = Checks.bits(-2);
        h = added(17, two, 0, 0, two, 0, 0, two, 0);
        h = added(h, 1, 1, 2, 3, two, 0, 0, 0, 0, -1);
        for (int t = 0; t < 6; t++) {
            h = added(h, 0, -1, 0, 0, Checks.bits(1), 0, -1, -1, -1, -1);
        }
        h = added(h, 1, 0, 0, 0, Checks.bits(1), 0, 0, -1, 1, -1);
        h = added(h, 1, -1, 9, 1, Checks.bits(1), 0, -1, -1, -1, -1);
        h = added(h, 7, 0, -1, 1, 1, 7, 0, -1, 1, 2);
        due("digest of a run", x.digest(), added(h, 7));
        x.told(0, 10);
        x.hire(3);
        due("what is not in it", x.digest(), added(h, 7));
    }
}
