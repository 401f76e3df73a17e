/** Studios that send 8 SAMPLES through one PLUG, and what comes of them, bit by bit. */
final class Sound {
    /** The PLUG that is looked at, and behind it an ECHO that adds -0.0: its LINE keeps what comes out of the PLUG. */
    static final int PLUG = 0, KEEPER = 1;
    static final int PLACE = 2;
    /** The CLIP of the 8 SAMPLES, and one of 64 numbers: the SAMPLE of number i is i / 128. */
    static final int SAMPLES = 0, STEPLADDER = 1;

    private Sound() {
    }

    static ScoreThreads through(int kind, float a, int n, float... samples) {
        ScoreThreads x = new ScoreThreads();
        x.clip(3, 8);
        for (int i = 0; i < samples.length; i++) {
            x.number(SAMPLES, 3, i, Float.floatToRawIntBits(samples[i]));
        }
        x.clip(2, 64);
        for (int i = 0; i < 64; i++) {
            x.number(STEPLADDER, 2, i, (long) i << 24);
        }
        x.plug(kind, Float.floatToRawIntBits(a), n);
        x.plug(4, Float.floatToRawIntBits(-0.0f), 8);
        x.track(0, SAMPLES, 0, false);
        x.chain(0, PLACE, PLUG);
        x.chain(0, PLACE + 1, KEEPER);
        x.on(0, true);
        x.render(1);
        x.rounds(0, 200);
        return x;
    }

    /** The bits of SAMPLE i as it came out of the PLUG, with the sign of a zero. */
    static int kept(ScoreThreads x, int i) {
        return x.plugged(KEEPER, 5 + i);
    }

    /** The FINDING that the PLUG met; -1: none. */
    static int failure(ScoreThreads x) {
        return x.fault(0, 3);
    }
}
