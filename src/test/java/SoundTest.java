/** Promises 1 to 6: clips and plugs, and what each KIND of PLUG makes of a SAMPLE. */
public final class SoundTest {
    private static final int NULL = -11, INDEX = -12, CAST = -13, SIZE = -15;
    private static final Checks checks = new Checks();

    private static void due(String call, long got, long want) {
        checks.due(call, got, want);
    }

    public static void main(String[] args) {
        newObject();
        clips();
        numbersRefused();
        wholeNumbers();
        floatNumbers();
        doubleNumbers();
        plugsRefused();
        pluggedFacts();
        gains();
        folds();
        steps();
        echoes();
        bells();
        gates();
        tables();
        signsOfZeros();
        checks.finish();
    }

    private static void newObject() {
        ScoreThreads x = new ScoreThreads();
        int[] wanted = {0, 0, 2, 0, 0, 0, 0, 0, 0, 0, 0};
        for (int what = 0; what < wanted.length; what++) {
            due("new about " + what, x.about(what), wanted[what]);
        }
        int[] track = {0, -1, 0, 0, Checks.bits(1.0), 0, -1, -1, -1, -1};
        for (int t = 0; t < 8; t++) {
            for (int what = 0; what < track.length; what++) {
                due("new told " + t + " " + what, x.told(t, what), track[what]);
            }
            due("new told " + t + " 20", x.told(t, 20), 0);
        }
        due("new worker 0", x.worker(0), ScoreThreads.NONE);
        due("new worker 1", x.worker(1), ScoreThreads.NONE);
        due("new worker 2", x.worker(2), ScoreThreads.UNKNOWN);
        due("new out", x.out(0), 0);
        for (int f = 1; f <= 6; f++) {
            due("new found " + f, x.found(f), 0);
        }
    }

    private static void clips() {
        ScoreThreads x = new ScoreThreads();
        due("lane -1", x.clip(-1, 1), ScoreThreads.OUTSIDE);
        due("lane 5", x.clip(5, -1), ScoreThreads.OUTSIDE);
        due("65 numbers", x.clip(0, 65), ScoreThreads.OUTSIDE);
        due("-1 numbers", x.clip(0, -1), SIZE);
        due("least numbers", x.clip(4, Integer.MIN_VALUE), SIZE);
        due("found size", x.found(5), 2);
        for (int c = 0; c < 16; c++) {
            due("clip " + c, x.clip(c % 5, c % 2 == 0 ? 64 : 0), c);
        }
        due("clip 16", x.clip(0, 1), ScoreThreads.FULL);
        due("full is ahead of size", x.clip(0, -1), ScoreThreads.FULL);
        due("outside is ahead of full", x.clip(9, 1), ScoreThreads.OUTSIDE);
        due("found size still", x.found(5), 2);
        due("clips", x.about(0), 16);
        due("number at first", x.sample(0, 63), 0);
        due("no such number", x.sample(0, 64), 0);
        due("number of an empty clip", x.sample(1, 0), 0);
        due("number below", x.sample(0, -1), 0);
        due("clip below", x.sample(-1, 0), 0);
        due("clip beyond", x.sample(16, 0), 0);
    }

    private static void numbersRefused() {
        ScoreThreads x = new ScoreThreads();
        x.clip(3, 2);
        due("no clip", x.number(1, 9, 0, 0), ScoreThreads.UNKNOWN);
        due("clip below", x.number(-1, 3, 0, 0), ScoreThreads.UNKNOWN);
        due("no lane", x.number(0, 5, 0, 0), ScoreThreads.OUTSIDE);
        due("lane below", x.number(0, -1, 9, 0), ScoreThreads.OUTSIDE);
        due("float NaN", x.number(0, 3, 9, 0x7f800001L), ScoreThreads.OUTSIDE);
        due("negative float NaN", x.number(0, 3, 0, 0xffc00000L), ScoreThreads.OUTSIDE);
        due("double NaN of another lane", x.number(0, 4, 0, 0x7ff0000000000001L), ScoreThreads.OUTSIDE);
        due("negative double NaN", x.number(0, 4, 0, -1L), ScoreThreads.OUTSIDE);
        due("another lane", x.number(0, 2, 9, 0), CAST);
        due("no such number", x.number(0, 3, 2, 0), INDEX);
        due("number below", x.number(0, 3, -1, 0), INDEX);
        due("found cast", x.found(3), 1);
        due("found index", x.found(2), 2);
        due("nothing was changed", x.sample(0, 0), 0);
        x.render(1);
        due("in a run", x.number(0, 2, 9, 0), ScoreThreads.STATE);
        due("NaN in a run", x.number(0, 3, 0, 0x7fc00000L), ScoreThreads.OUTSIDE);
        due("found cast still", x.found(3), 1);
        due("a clip in a run", x.clip(0, 1), 1);
        due("a plug in a run", x.plug(7, 0, 1), 0);
    }

    private static void wholeNumbers() {
        long[] words = {0, 1, -1, 127, 128, 255, 256, -128, 32767, 32768, 65535, 2147483647L, 2147483648L, 16777217L,
            -16777219L, 4294967295L, 4294967296L, Long.MAX_VALUE, Long.MIN_VALUE, 0x123456789abcdefL};
        ScoreThreads x = new ScoreThreads();
        for (int lane = 0; lane < 3; lane++) {
            x.clip(lane, 3);
        }
        for (long word : words) {
            for (int lane = 0; lane < 3; lane++) {
                due("whole", x.number(lane, lane, 1, word), 0);
            }
            checks.dueFloat("byte " + word, x.sample(0, 1), (float) ((byte) word / 128.0));
            checks.dueFloat("short " + word, x.sample(1, 1), (float) ((short) word / 32768.0));
            checks.dueFloat("int " + word, x.sample(2, 1), (float) ((int) word / 2147483648.0));
        }
        due("other numbers stay", x.sample(2, 0) | x.sample(2, 2), 0);
    }

    private static float clipped(float f) {
        return Math.max(-8.0f, Math.min(8.0f, f));
    }

    private static void floatNumbers() {
        for (int exponent = 0; exponent <= 255; exponent++) {
            ScoreThreads x = new ScoreThreads();
            x.clip(3, 1);
            int[] fractions = {0, 1, 2, 0x400000, 0x7fffff, 0x2aaaaa};
            for (int fraction : fractions) {
                for (int sign = 0; sign < 2; sign++) {
                    int bits = sign << 31 | exponent << 23 | (exponent == 255 ? 0 : fraction);
                    x.number(0, 3, 0, 0x5555555500000000L | bits & 0xffffffffL);
                    checks.dueFloat("float " + bits, x.sample(0, 0), clipped(Float.intBitsToFloat(bits)));
                }
            }
        }
    }

    private static void doubleNumbers() {
        long[] fractions = {0, 1, 0x8000000000000L, 0x000000010000000L, 0x000000010000001L, 0x000000030000000L,
            0xfffffe0000000L, 0xfffffefffffffL, 0xffffff0000000L, 0xfffffffffffffL, 0x5555555555555L};
        for (long exponent = 0; exponent <= 2047; exponent++) {
            ScoreThreads x = new ScoreThreads();
            x.clip(4, 1);
            for (long fraction : fractions) {
                for (long sign = 0; sign < 2; sign++) {
                    long bits = sign << 63 | exponent << 52 | (exponent == 2047 ? 0 : fraction);
                    x.number(0, 4, 0, bits);
                    checks.dueFloat("double " + bits, x.sample(0, 0), clipped((float) Double.longBitsToDouble(bits)));
                }
            }
        }
    }

    private static void plugsRefused() {
        ScoreThreads x = new ScoreThreads();
        due("kind -1", x.plug(-1, 0, 0), ScoreThreads.OUTSIDE);
        due("kind 8", x.plug(8, 0, 0), ScoreThreads.OUTSIDE);
        due("a NaN", x.plug(0, 0x7fc00000, 0), ScoreThreads.OUTSIDE);
        due("a -NaN", x.plug(0, -1, 0), ScoreThreads.OUTSIDE);
        due("a endless", x.plug(0, 0x7f800000, 0), ScoreThreads.OUTSIDE);
        due("a just above 8", x.plug(6, 0x41000001, 0), ScoreThreads.OUTSIDE);
        due("a just below -8", x.plug(6, 0xc1000001, 0), ScoreThreads.OUTSIDE);
        due("steps 65", x.plug(3, 0, 65), ScoreThreads.OUTSIDE);
        due("steps -65", x.plug(3, 0, -65), ScoreThreads.OUTSIDE);
        due("echo 17", x.plug(4, 0, 17), ScoreThreads.OUTSIDE);
        due("bell 17", x.plug(5, 0, 17), ScoreThreads.OUTSIDE);
        due("table without clip", x.plug(7, 0, 0), ScoreThreads.OUTSIDE);
        due("table -1", x.plug(7, 0, -1), ScoreThreads.OUTSIDE);
        due("echo -1", x.plug(4, 0, -1), SIZE);
        due("bell -1", x.plug(5, 0, -1), SIZE);
        due("echo -1, a outside", x.plug(4, 0x7fc00000, -1), ScoreThreads.OUTSIDE);
        due("found size", x.found(5), 2);
        due("gain of any n", x.plug(0, 0x41000000, Integer.MIN_VALUE), 0);
        due("gate of any n", x.plug(6, 0xc1000000, Integer.MAX_VALUE), 1);
        due("steps 64", x.plug(3, 0, 64), 2);
        due("steps -64", x.plug(3, 0, -64), 3);
        due("echo 16", x.plug(4, 0, 16), 4);
        due("bell 0", x.plug(5, 0, 0), 5);
        for (int p = 6; p < 12; p++) {
            due("plug " + p, x.plug(1, 0x80000000, 0), p);
        }
        due("plug 12", x.plug(0, 0, 0), ScoreThreads.FULL);
        due("full is ahead of size", x.plug(4, 0, -1), ScoreThreads.FULL);
        due("outside is ahead of full", x.plug(8, 0, 0), ScoreThreads.OUTSIDE);
        due("plugs", x.about(1), 12);
        due("found size still", x.found(5), 2);
    }

    private static void pluggedFacts() {
        ScoreThreads x = new ScoreThreads();
        x.clip(0, 0);
        int[] tails = {0, 1, 3, 0, 5, 8, 0, 0};
        for (int kind = 0; kind < 8; kind++) {
            x.plug(kind, 0, kind == 7 ? 0 : 5);
            due("kind of " + kind, x.plugged(kind, 0), kind);
            due("tail of " + kind, x.plugged(kind, 1), tails[kind]);
            due("uses of " + kind, x.plugged(kind, 2), 0);
            boolean echo = kind == 4 || kind == 5;
            due("at of " + kind, x.plugged(kind, 3), echo ? 0 : CAST);
            due("line of " + kind, x.plugged(kind, 4), echo ? 5 : CAST);
            due("line's last of " + kind, x.plugged(kind, 9), echo ? 0 : CAST);
            due("line's end of " + kind, x.plugged(kind, 10), echo ? INDEX : CAST);
            due("what 20 of " + kind, x.plugged(kind, 20), echo ? INDEX : CAST);
            due("what 21 of " + kind, x.plugged(kind, 21), ScoreThreads.OUTSIDE);
            due("what -1 of " + kind, x.plugged(kind, -1), ScoreThreads.OUTSIDE);
        }
        due("found cast", x.found(3), 30);
        due("found index", x.found(2), 4);
        due("no plug", x.plugged(8, 21), ScoreThreads.UNKNOWN);
        due("plug below", x.plugged(-1, 0), ScoreThreads.UNKNOWN);
        x.line(4, -1);
        due("at without line", x.plugged(4, 3), 0);
        due("count without line", x.plugged(4, 4), NULL);
        due("sample without line", x.plugged(4, 20), NULL);
        due("tail without line", x.plugged(4, 1), 5);
        due("found null", x.found(1), 2);
    }

    private static void dueOut(String what, ScoreThreads x, float... wanted) {
        for (int i = 0; i < wanted.length; i++) {
            // other TRACKS join with 0.0, which hides the sign of a -0.0
            checks.dueFloat(what + " " + i, x.out(i), wanted[i] + 0.0f);
        }
    }

    private static int signedBits(int kind, float a, int n, float sample) {
        return Sound.kept(Sound.through(kind, a, n, sample), 0);
    }

    private static void gains() {
        for (int kind = 0; kind < 2; kind++) {
            dueOut("gain", Sound.through(kind, 3.0f, 0, 0.1f, -0.1f, 2.0f, 2.7f, -2.7f, 8.0f, -8.0f, 0.0f),
                    0.1f * 3.0f, -0.1f * 3.0f, 6.0f, 8.0f, -8.0f, 8.0f, -8.0f, 0.0f);
        }
        ScoreThreads tiny = Sound.through(0, 0.5f, 0, Float.MIN_VALUE, 3 * Float.MIN_VALUE, -3 * Float.MIN_VALUE,
                Float.MIN_NORMAL, 1e-30f);
        dueOut("tiny gain", tiny, 0.0f, 2 * Float.MIN_VALUE, -2 * Float.MIN_VALUE, Float.MIN_NORMAL / 2, 0.5f * 1e-30f);
    }

    private static void folds() {
        dueOut("fold", Sound.through(2, 3.0f, 0, 0.1f, -0.1f, 0.5f, -0.5f, 2.0f, -2.5f, 8.0f, -8.0f),
                0.1f * 3.0f, -0.1f * 3.0f, 0.5f, -0.5f, 0.0f, -0.5f, 0.0f, 0.0f);
        dueOut("fold near one", Sound.through(2, 1.0f, 0, 0.99999994f, -7.9999995f, 1.0000001f),
                0.99999994f, -7.9999995f % 1.0f, 1.0000001f % 1.0f);
    }

    private static void steps() {
        float[] samples = {0.125f, 0.375f, -0.125f, -0.375f, 0.3f, -0.3f, 7.99f, -8.0f};
        float[] wanted = new float[8];
        int[] counts = {1, 2, 5, 16, 33, 64, -1, -5, -16, -64};
        for (int n : counts) {
            float m = 64 / n;
            for (int i = 0; i < 8; i++) {
                wanted[i] = clipped((float) Math.rint(samples[i] * m) / m);
            }
            dueOut("steps " + n, Sound.through(3, 0.0f, n, samples), wanted);
        }
        ScoreThreads x = Sound.through(3, 1.0f, 0, samples);
        dueOut("steps 0 are silent", x, 0, 0, 0, 0, 0, 0, 0, 0);
        due("steps 0 fail", x.fault(0, 3), 6);
        due("what fails is not found", x.found(6), 0);
        due("what fails did not go through", x.plugged(0, 2), 0);
    }

    private static void echoes() {
        ScoreThreads x = Sound.through(4, 0.5f, 3, 1, 2, 3, 4, 5, 6, 7, 8);
        float[] y = {1, 2, 3, 4.5f, 6, 7.5f, 8, 8};
        dueOut("echo", x, y);
        due("echo at", x.plugged(0, 3), 2);
        checks.dueFloat("echo line 0", x.plugged(0, 5), 8);
        checks.dueFloat("echo line 1", x.plugged(0, 6), 8);
        checks.dueFloat("echo line 2", x.plugged(0, 7), 7.5f);
        due("echo went through", x.plugged(0, 2), 1);
        dueOut("echo clipped below", Sound.through(4, 8.0f, 1, -1, -1), -1, -8, -8);
        dueOut("echo's product is not clipped", Sound.through(4, 8.0f, 1, 8, -8, -8), 8, 8, 8);
        ScoreThreads empty = Sound.through(4, 0.5f, 0, 1, 2);
        due("echo without samples", empty.fault(0, 3), 2);
        due("echo without samples at", empty.plugged(0, 3), 0);
    }

    private static void bells() {
        ScoreThreads x = Sound.through(5, 0.5f, 2, -1, 1, -1, 1, 0, 0, 0, 0);
        dueOut("bell", x, 0.5f, 1, 0.5f, 1.5f, 0.5f, 0.75f, 0.5f, 0.5f);
        checks.dueFloat("the line has what an echo makes", x.plugged(0, 5), -0.375f);
        dueOut("bell below", Sound.through(5, -2.0f, 1, -3, 1, 0), -2, 7, -2);
        due("bell without samples", Sound.through(5, 0.5f, 0, 1).fault(0, 3), 2);
    }

    private static void gates() {
        dueOut("gate", Sound.through(6, -0.5f, 0, 0.5f, -0.5f, 0.49999997f, -0.49999997f, 8, -8, 0),
                0.5f, -0.5f, 0, 0, 8, -8, 0);
    }

    private static void tables() {
        dueOut("table", Sound.through(7, 0.0f, 1, -8, -7.75f, -7.76f, 0, 0.2499f, 7.99f, 7.75f, 0.25f),
                0, 1 / 128f, 0, 32 / 128f, 32 / 128f, 63 / 128f, 63 / 128f, 33 / 128f);
        ScoreThreads x = Sound.through(7, 0.0f, 1, 0, 0, 0, 0, 0, 0, 0, 8);
        due("table beyond", x.fault(0, 3), 2);
        due("table's place", x.fault(0, 2), 2);
        due("table's uses", x.plugged(0, 2), 0);
        due("nearly 8.0 and 8 is 16.0 as a float", Sound.through(7, 0.0f, 1, 7.9999995f).fault(0, 3), 2);
        due("table of a shorter clip", Sound.through(7, 0.0f, 0, -6.0f, -6, -6, -6, -6, -6, -6, -6).fault(0, 3), 2);
    }

    private static void signsOfZeros() {
        checks.dueFloat("gain of 0.0", signedBits(0, -2.0f, 0, 0.0f), -0.0f);
        checks.dueFloat("gain of -0.0", signedBits(1, 1.0f, 0, -0.0f), -0.0f);
        checks.dueFloat("fold of -2.0", signedBits(2, 1.0f, 0, -2.0f), -0.0f);
        checks.dueFloat("fold of 2.0", signedBits(2, 1.0f, 0, 2.0f), 0.0f);
        checks.dueFloat("fold of -0.0", signedBits(2, 1.0f, 0, -0.0f), -0.0f);
        checks.dueFloat("gate of -0.5", signedBits(6, 1.0f, 0, -0.5f), -0.0f);
        checks.dueFloat("gate of 0.5", signedBits(6, 1.0f, 0, 0.5f), 0.0f);
        checks.dueFloat("steps of -0.25", signedBits(3, 1.0f, 64, -0.25f), -0.0f);
        checks.dueFloat("steps of 0.25", signedBits(3, 1.0f, -64, 0.25f), 0.0f);
        checks.dueFloat("bell of 0.0 and -0.0", signedBits(5, -0.0f, 1, 0.0f), 0.0f);
        checks.dueFloat("bell of -0.0 and -0.0", signedBits(5, -0.0f, 1, -0.0f), -0.0f);
    }
}
