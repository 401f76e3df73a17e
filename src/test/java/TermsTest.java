/** The sentences of "Terms" that name an edge: a test for each, with its sentence above it. */
public final class TermsTest {
    private static final int GAIN = 0, WARM = 1, FOLD = 2, STEPS = 3, ECHO = 4, BELL = 5, GATE = 6, TABLE = 7;
    private static final int NULL = 1, INDEX = 2, ZERO = 6, NO_FAULT = -1;
    private static final float ABOVE_8 = Math.nextUp(8.0f), BELOW_8 = Math.nextDown(8.0f);
    private static final Checks checks = new Checks();

    public static void main(String[] args) {
        clipped();
        floatsThatAreClipped();
        doublesThatAreClipped();
        blocksHaveEight();
        blocksAreNumberedFromZero();
        sixtyFourBlocks();
        sixteenClips();
        clipsOfNoneAndOfAll();
        numbersAreZeroAtFirst();
        bytes();
        shorts();
        ints();
        floats();
        doublesToTheNearest();
        doublesBeyondFloats();
        twelvePlugs();
        gainsAreClipped();
        warmsAreGains();
        foldsLeaveLessThanOne();
        foldsFoldWhatIsClipped();
        foldsKeepTheSign();
        stepsAreCut();
        stepsOfZero();
        stepsToTheEvenOne();
        stepsAreFloats();
        echoesAreClipped();
        echoesAtTheEnd();
        echoesOfOneSample();
        echoesOfAllSamples();
        echoesWithoutLine();
        echoesWithoutSamples();
        echoesAreFloats();
        bellsTakeTheGreater();
        bellsWithoutLine();
        gatesAtTheSize();
        gatesKeepTheSign();
        gatesOfZero();
        tablesFromEndToEnd();
        tablesAreCut();
        tablesBeyondTheClip();
        tablesOfNoNumbers();
        tails();
        eightTracks();
        fourPlaces();
        pureTakesGainsAlone();
        checks.finish();
    }

    private static void due(String call, long got, long want) {
        checks.due(call, got, want);
    }

    private static long word(float x) {
        return Float.floatToRawIntBits(x) & 0xffffffffL;
    }

    /** The SAMPLE of a number that a word tells. */
    private static int sampleOf(int lane, long word) {
        ScoreThreads x = new ScoreThreads();
        x.clip(lane, 1);
        due("number of lane " + lane + " by " + word, x.number(0, lane, 0, word), 0);
        return x.sample(0, 0);
    }

    private static void dueFloat(float word, float want) {
        checks.dueFloat("float " + word, sampleOf(3, word(word)), want);
    }

    private static void dueDouble(double word, float want) {
        checks.dueFloat("double " + word, sampleOf(4, Double.doubleToRawLongBits(word)), want);
    }

    /** A PLUG makes of the one SAMPLE the other, to the bit. */
    private static void dueMade(int kind, float a, int n, float sample, float want) {
        ScoreThreads x = Sound.through(kind, a, n, sample, 0, 0, 0, 0, 0, 0, 0);
        String name = "kind " + kind + " with " + a + " and " + n + " of " + sample;
        due(name + " does not fail", Sound.failure(x), NO_FAULT);
        checks.dueFloat(name, Sound.kept(x, 0), want);
    }

    private static void dueFailure(int kind, float a, int n, float sample, int want) {
        String name = "kind " + kind + " with " + a + " and " + n + " of " + sample + " fails";
        due(name, Sound.failure(Sound.through(kind, a, n, sample, 0, 0, 0, 0, 0, 0, 0)), want);
    }

    // "SAMPLES are floats; what goes beyond -8.0 .. 8.0 is CLIPPED to these."

    private static void clipped() {
        dueMade(GAIN, 8.0f, 0, 1.0f, 8.0f);
        dueMade(GAIN, 8.0f, 0, -1.0f, -8.0f);
        dueMade(GAIN, 8.0f, 0, Math.nextDown(1.0f), BELOW_8);
        dueMade(GAIN, 8.0f, 0, -Math.nextDown(1.0f), -BELOW_8);
        dueMade(GAIN, 8.0f, 0, Math.nextUp(1.0f), 8.0f);
        dueMade(GAIN, 8.0f, 0, -Math.nextUp(1.0f), -8.0f);
    }

    private static void floatsThatAreClipped() {
        dueFloat(8.0f, 8.0f);
        dueFloat(-8.0f, -8.0f);
        dueFloat(BELOW_8, BELOW_8);
        dueFloat(-BELOW_8, -BELOW_8);
        dueFloat(ABOVE_8, 8.0f);
        dueFloat(-ABOVE_8, -8.0f);
        dueFloat(Float.MAX_VALUE, 8.0f);
        dueFloat(-Float.MAX_VALUE, -8.0f);
        dueFloat(Float.POSITIVE_INFINITY, 8.0f);
        dueFloat(Float.NEGATIVE_INFINITY, -8.0f);
    }

    private static void doublesThatAreClipped() {
        dueDouble(8.0, 8.0f);
        dueDouble(-8.0, -8.0f);
        dueDouble(Math.nextUp(8.0), 8.0f);
        dueDouble(-Math.nextUp(8.0), -8.0f);
        dueDouble(ABOVE_8, 8.0f);
        dueDouble(-ABOVE_8, -8.0f);
        dueDouble(Math.nextDown(8.0), 8.0f);
        dueDouble(BELOW_8, BELOW_8);
        dueDouble(-BELOW_8, -BELOW_8);
    }

    // "A BLOCK has 8 of them; BLOCKS are numbered from 0 on, 64 at most since the beginning."

    private static ScoreThreads ones() {
        ScoreThreads x = new ScoreThreads();
        x.clip(3, 64);
        for (int i = 0; i < 64; i++) {
            x.number(0, 3, i, word(1.0f));
        }
        x.track(0, 0, 0, false);
        x.on(0, true);
        return x;
    }

    private static void blocksHaveEight() {
        ScoreThreads x = ones();
        x.render(1);
        x.rounds(0, 200);
        checks.dueFloat("the eighth", x.out(7), 1.0f);
        due("no ninth", x.out(8), 0);
        x.render(1);
        due("no ninth in a run that has begun", x.out(8), 0);
        x.rounds(0, 200);
        checks.dueFloat("the ninth", x.out(8), 1.0f);
        checks.dueFloat("the sixteenth", x.out(15), 1.0f);
        due("no seventeenth", x.out(16), 0);
    }

    private static void blocksAreNumberedFromZero() {
        ScoreThreads x = new ScoreThreads();
        x.on(0, true);
        due("the first", x.render(1), 0);
        x.rounds(0, 200);
        due("the second", x.render(2), 1);
        x.rounds(0, 200);
        due("the fourth", x.render(1), 3);
        x.rounds(0, 200);
        due("what failed in the first", x.fault(0, 1), 0);
        due("what failed in the third", x.fault(4, 1), 2);
        due("what failed in the fourth", x.fault(6, 1), 3);
    }

    private static ScoreThreads rendered(int blocks) {
        ScoreThreads x = new ScoreThreads();
        for (int left = blocks; left > 0; left -= 8) {
            x.render(Math.min(left, 8));
            x.rounds(0, 200);
        }
        return x;
    }

    private static void sixtyFourBlocks() {
        due("57 and 7", rendered(57).render(7), 57);
        due("57 and 8", rendered(57).render(8), ScoreThreads.FULL);
        due("56 and 8", rendered(56).render(8), 56);
        due("63 and 1", rendered(63).render(1), 63);
        due("63 and 2", rendered(63).render(2), ScoreThreads.FULL);
        due("64 and 1", rendered(64).render(1), ScoreThreads.FULL);
        due("64 blocks", rendered(64).about(3), 64);
    }

    // "CLIPS 0, 1, .. (16 at most) are rows of 0 .. 64 numbers of a LANE: 0 .. 4; all 0 at first."

    private static void sixteenClips() {
        ScoreThreads x = new ScoreThreads();
        for (int c = 0; c < 16; c++) {
            due("clip " + c, x.clip(c % 5, 1), c);
        }
        due("a seventeenth", x.clip(0, 1), ScoreThreads.FULL);
        due("sixteen", x.about(0), 16);
        due("the last has a number", x.number(15, 0, 0, 127), 0);
        due("no number of a seventeenth", x.number(16, 0, 0, 127), ScoreThreads.UNKNOWN);
    }

    private static void clipsOfNoneAndOfAll() {
        for (int lane = 0; lane < 5; lane++) {
            ScoreThreads x = new ScoreThreads();
            due("of none", x.clip(lane, 0), 0);
            due("of one", x.clip(lane, 1), 1);
            due("of 64", x.clip(lane, 64), 2);
            due("of 65", x.clip(lane, 65), ScoreThreads.OUTSIDE);
            due("of -1", x.clip(lane, -1), -15);
            due("no number 0 of none", x.number(0, lane, 0, 0), -12);
            due("number 0 of one", x.number(1, lane, 0, 0), 0);
            due("no number 1 of one", x.number(1, lane, 1, 0), -12);
            due("number 63 of 64", x.number(2, lane, 63, 0), 0);
            due("no number 64 of 64", x.number(2, lane, 64, 0), -12);
            due("no number -1", x.number(2, lane, -1, 0), -12);
        }
    }

    private static void numbersAreZeroAtFirst() {
        for (int lane = 0; lane < 5; lane++) {
            ScoreThreads x = new ScoreThreads();
            x.clip(lane, 64);
            for (int i = 0; i < 64; i++) {
                checks.dueFloat("number " + i + " of lane " + lane, x.sample(0, i), 0.0f);
            }
        }
    }

    // "The SAMPLE of a number x: byte x / 128, short x / 32768, int x / 2147483648 (as doubles, then the nearest float)"

    private static void bytes() {
        checks.dueFloat("least byte", sampleOf(0, -128), -1.0f);
        checks.dueFloat("greatest byte", sampleOf(0, 127), 0.9921875f);
        checks.dueFloat("a byte that wraps", sampleOf(0, 128), -1.0f);
        checks.dueFloat("byte -1", sampleOf(0, 255), -0.0078125f);
        checks.dueFloat("byte 0 of 256", sampleOf(0, 256), 0.0f);
    }

    private static void shorts() {
        checks.dueFloat("least short", sampleOf(1, -32768), -1.0f);
        checks.dueFloat("greatest short", sampleOf(1, 32767), 0.999969482421875f);
        checks.dueFloat("a short that wraps", sampleOf(1, 32768), -1.0f);
        checks.dueFloat("short -1", sampleOf(1, 65535), -0.000030517578125f);
        checks.dueFloat("short 0 of 65536", sampleOf(1, 65536), 0.0f);
    }

    private static void ints() {
        checks.dueFloat("least int", sampleOf(2, Integer.MIN_VALUE), -1.0f);
        checks.dueFloat("greatest int, to the nearest", sampleOf(2, Integer.MAX_VALUE), 1.0f);
        checks.dueFloat("the last one below 1.0", sampleOf(2, 2147483583L), Math.nextDown(1.0f));
        checks.dueFloat("of two nearest the even one", sampleOf(2, 2147483584L), 1.0f);
        checks.dueFloat("an int that wraps", sampleOf(2, 2147483648L), -1.0f);
        checks.dueFloat("int -1", sampleOf(2, 4294967295L), (float) (-1.0 / 2147483648.0));
        checks.dueFloat("int 0 of 2^32", sampleOf(2, 4294967296L), 0.0f);
    }

    // "a float itself"

    private static void floats() {
        dueFloat(0.0f, 0.0f);
        dueFloat(-0.0f, -0.0f);
        dueFloat(Float.MIN_VALUE, Float.MIN_VALUE);
        dueFloat(-Float.MIN_VALUE, -Float.MIN_VALUE);
        dueFloat(Math.nextDown(Float.MIN_NORMAL), Math.nextDown(Float.MIN_NORMAL));
        dueFloat(Float.MIN_NORMAL, Float.MIN_NORMAL);
        dueFloat(0.1f, 0.1f);
    }

    // "a double the nearest float (what is beyond floats: endless); CLIPPED."

    private static void doublesToTheNearest() {
        double between = (8.0 + BELOW_8) / 2;
        dueDouble(between, 8.0f);
        dueDouble(Math.nextDown(between), BELOW_8);
        dueDouble(1.0 + 0x1p-24, 1.0f);
        dueDouble(Math.nextUp(1.0 + 0x1p-24), Math.nextUp(1.0f));
        dueDouble(1.0 + 3 * 0x1p-24, 1.0f + 0x1p-22f);
        dueDouble(0x1p-150, 0.0f);
        dueDouble(-0x1p-150, -0.0f);
        dueDouble(Math.nextUp(0x1p-150), Float.MIN_VALUE);
        dueDouble(-Math.nextUp(0x1p-150), -Float.MIN_VALUE);
        dueDouble(3 * 0x1p-150, 2 * Float.MIN_VALUE);
        dueDouble(Double.MIN_VALUE, 0.0f);
        dueDouble(-Double.MIN_VALUE, -0.0f);
        dueDouble(0.0, 0.0f);
        dueDouble(-0.0, -0.0f);
        dueDouble(Math.nextDown((double) Float.MIN_NORMAL), Float.MIN_NORMAL);
    }

    private static void doublesBeyondFloats() {
        dueDouble(Float.MAX_VALUE, 8.0f);
        dueDouble(3.5e38, 8.0f);
        dueDouble(-3.5e38, -8.0f);
        dueDouble(Double.MAX_VALUE, 8.0f);
        dueDouble(-Double.MAX_VALUE, -8.0f);
        dueDouble(Double.POSITIVE_INFINITY, 8.0f);
        dueDouble(Double.NEGATIVE_INFINITY, -8.0f);
    }

    // "PLUGS 0, 1, .. (12 at most) are of KINDS"

    private static void twelvePlugs() {
        ScoreThreads x = new ScoreThreads();
        x.clip(0, 0);
        for (int p = 0; p < 12; p++) {
            due("plug " + p, x.plug(p % 8, 0, 0), p);
        }
        due("a thirteenth", x.plug(0, 0, 0), ScoreThreads.FULL);
        due("twelve", x.about(1), 12);
        due("the last", x.plugged(11, 0), 3);
        due("no thirteenth", x.plugged(12, 0), ScoreThreads.UNKNOWN);
        due("the last in a chain", x.chain(0, 0, 11), 1);
        due("no thirteenth in a chain", x.chain(0, 0, 12), ScoreThreads.UNKNOWN);
    }

    // "0 GAIN: x times a, CLIPPED. 1 WARM (a GAIN, too): as a GAIN."

    private static void gainsAreClipped() {
        dueMade(GAIN, 2.0f, 0, 4.0f, 8.0f);
        dueMade(GAIN, 2.0f, 0, Math.nextUp(4.0f), 8.0f);
        dueMade(GAIN, 2.0f, 0, Math.nextDown(4.0f), BELOW_8);
        dueMade(GAIN, -2.0f, 0, 4.0f, -8.0f);
        dueMade(GAIN, -8.0f, 0, 8.0f, -8.0f);
        dueMade(GAIN, -8.0f, 0, -8.0f, 8.0f);
        dueMade(GAIN, 0.1f, 0, 0.1f, 0.1f * 0.1f);
        dueMade(GAIN, 0.5f, 0, Float.MIN_VALUE, 0.0f);
        dueMade(GAIN, 0.5f, 0, -Float.MIN_VALUE, -0.0f);
    }

    private static void warmsAreGains() {
        dueMade(WARM, 2.0f, 0, 4.0f, 8.0f);
        dueMade(WARM, 2.0f, 0, Math.nextDown(4.0f), BELOW_8);
        dueMade(WARM, 8.0f, 0, 8.0f, 8.0f);
        dueMade(WARM, 8.0f, 0, -8.0f, -8.0f);
        dueMade(WARM, -1.0f, 0, 0.0f, -0.0f);
    }

    // "2 FOLD (a WARM and a GAIN, too): what is left of what a GAIN makes by 1.0 (with its sign)."

    private static void foldsLeaveLessThanOne() {
        dueMade(FOLD, 1.0f, 0, Math.nextDown(1.0f), Math.nextDown(1.0f));
        dueMade(FOLD, 1.0f, 0, 1.0f, 0.0f);
        dueMade(FOLD, 1.0f, 0, Math.nextUp(1.0f), 0x1p-23f);
        dueMade(FOLD, 1.0f, 0, BELOW_8, BELOW_8 - 7.0f);
        dueMade(FOLD, 1.0f, 0, 8.0f, 0.0f);
        dueMade(FOLD, 1.0f, 0, Float.MIN_VALUE, Float.MIN_VALUE);
        dueMade(FOLD, 3.0f, 0, 0.5f, 0.5f);
    }

    private static void foldsFoldWhatIsClipped() {
        dueMade(FOLD, 3.0f, 0, 2.75f, 0.0f);
        dueMade(FOLD, 3.0f, 0, -2.75f, -0.0f);
        dueMade(FOLD, 3.0f, 0, 2.625f, 0.875f);
    }

    private static void foldsKeepTheSign() {
        dueMade(FOLD, 1.0f, 0, -1.5f, -0.5f);
        dueMade(FOLD, -1.0f, 0, 1.5f, -0.5f);
        dueMade(FOLD, -1.0f, 0, -1.5f, 0.5f);
        dueMade(FOLD, 1.0f, 0, -1.0f, -0.0f);
        dueMade(FOLD, 1.0f, 0, -8.0f, -0.0f);
        dueMade(FOLD, 1.0f, 0, -0.0f, -0.0f);
    }

    // "3 STEPS: m is 64 by n, cut (ZERO, if n is 0): x times m, the nearest whole number (of two the even one), by m"

    private static void stepsAreCut() {
        dueMade(STEPS, 0, 1, 0x1p-6f, 0x1p-6f);
        dueMade(STEPS, 0, 64, 0.75f, 1.0f);
        dueMade(STEPS, 0, 33, 0.75f, 1.0f);
        dueMade(STEPS, 0, 32, 0.75f, 1.0f);
        dueMade(STEPS, 0, 32, 0.5f, 0.5f);
        dueMade(STEPS, 0, 33, 0.5f, 0.0f);
        dueMade(STEPS, 0, 22, 0.5f, 0.5f);
        dueMade(STEPS, 0, 21, 0.5f, 2.0f / 3.0f);
        dueMade(STEPS, 0, -1, 0x1p-6f, 0x1p-6f);
        dueMade(STEPS, 0, -33, 0.5f, 0.0f);
        dueMade(STEPS, 0, -64, 0.75f, 1.0f);
        dueMade(STEPS, 0, -21, 0.5f, 2.0f / 3.0f);
        dueMade(STEPS, 0, 3, 8.0f, 8.0f);
        dueMade(STEPS, 0, 3, -8.0f, -8.0f);
    }

    private static void stepsOfZero() {
        dueFailure(STEPS, 1.0f, 0, 0.0f, ZERO);
        dueFailure(STEPS, 0.0f, 0, 8.0f, ZERO);
        dueFailure(STEPS, 0.0f, 1, 8.0f, NO_FAULT);
        dueFailure(STEPS, 0.0f, -1, 8.0f, NO_FAULT);
    }

    private static void stepsToTheEvenOne() {
        float[] halves = {0.5f, 1.5f, 2.5f, 3.5f, 7.5f};
        float[] even = {0.0f, 2.0f, 2.0f, 4.0f, 8.0f};
        for (int i = 0; i < halves.length; i++) {
            dueMade(STEPS, 0, 64, halves[i], even[i]);
            dueMade(STEPS, 0, 64, -halves[i], -even[i]);
            dueMade(STEPS, 0, -64, halves[i], even[i]);
            dueMade(STEPS, 0, -64, -halves[i], -even[i]);
            dueMade(STEPS, 0, 64, Math.nextUp(halves[i]), (float) Math.floor(halves[i]) + 1.0f);
            dueMade(STEPS, 0, 64, Math.nextDown(halves[i]), (float) Math.floor(halves[i]));
            dueMade(STEPS, 0, 64, -Math.nextUp(halves[i]), -(float) Math.floor(halves[i]) - 1.0f);
            dueMade(STEPS, 0, 64, -Math.nextDown(halves[i]), -(float) Math.floor(halves[i]));
        }
    }

    // "(All in floats. x times m, and that by m, are floats, m one, too.)"

    private static void stepsAreFloats() {
        // as doubles these are a little more or less than a half
        dueMade(STEPS, 0, 21, Float.intBitsToFloat(0x3f555556), 2.0f / 3.0f);
        dueMade(STEPS, 0, 21, Float.intBitsToFloat(0x3f955555), 4.0f / 3.0f);
        dueMade(STEPS, 0, -21, Float.intBitsToFloat(0xbf555556), -2.0f / 3.0f);
        dueMade(STEPS, 0, 12, 0.7f, 4.0f / 5.0f);
        dueMade(STEPS, 0, 9, Float.intBitsToFloat(0x3eb6db6e), 2.0f / 7.0f);
    }

    // "4 ECHO: .. x and a times what is AT there, together, CLIPPED: this lies there then, and AT is one more,
    // or 0 at the end (NULL: there is no LINE; INDEX: it has no SAMPLES)."

    private static void dueEchoes(ScoreThreads x, float... wanted) {
        for (int i = 0; i < wanted.length; i++) {
            checks.dueFloat("echo " + i, Sound.kept(x, i), wanted[i]);
        }
    }

    private static void echoesAreClipped() {
        ScoreThreads x = Sound.through(ECHO, 1.0f, 1, 4, 4, 4, -8, -8, -8, 8, 8);
        dueEchoes(x, 4, 8, 8, 0, -8, -8, 0, 8);
        checks.dueFloat("what lies there is clipped", x.plugged(Sound.PLUG, 5), 8.0f);
        dueEchoes(Sound.through(ECHO, 1.0f, 1, 4, BELOW_8 - 4.0f), 4, BELOW_8);
        dueEchoes(Sound.through(ECHO, 1.0f, 1, 4, ABOVE_8 - 4.0f), 4, 8);
        dueEchoes(Sound.through(ECHO, 8.0f, 1, 8, -8, -8), 8, 8, 8);
        dueEchoes(Sound.through(ECHO, -8.0f, 1, 8, 8, 8), 8, -8, 8);
    }

    private static void echoesAtTheEnd() {
        ScoreThreads x = Sound.through(ECHO, 1.0f, 3, 1, 0, 0, 0, 0, 0, 0, 0);
        dueEchoes(x, 1, 0, 0, 1, 0, 0, 1, 0);
        due("at behind 8 of 3", x.plugged(Sound.PLUG, 3), 2);
        due("at behind 8 of 8", Sound.through(ECHO, 1.0f, 8).plugged(Sound.PLUG, 3), 0);
        due("at behind 8 of 9", Sound.through(ECHO, 1.0f, 9).plugged(Sound.PLUG, 3), 8);
        due("at behind 8 of 7", Sound.through(ECHO, 1.0f, 7).plugged(Sound.PLUG, 3), 1);
    }

    private static void echoesOfOneSample() {
        ScoreThreads x = Sound.through(ECHO, 0.5f, 1, 1, 0, 0, 0, 0, 0, 0, 0);
        dueEchoes(x, 1, 0.5f, 0.25f, 0.125f);
        due("at behind 8 of 1", x.plugged(Sound.PLUG, 3), 0);
    }

    private static void echoesOfAllSamples() {
        ScoreThreads x = Sound.through(ECHO, 1.0f, 16, 1, 2, 3, 4, 5, 6, 7, 8);
        due("at behind 8 of 16", x.plugged(Sound.PLUG, 3), 8);
        checks.dueFloat("the last that lies there", x.plugged(Sound.PLUG, 5 + 7), 8.0f);
        due("behind it there is 0.0", x.plugged(Sound.PLUG, 5 + 8), 0);
        x.track(0, Sound.SAMPLES, -8, false);
        x.render(1);
        x.rounds(0, 200);
        due("at behind 16 of 16", x.plugged(Sound.PLUG, 3), 0);
        checks.dueFloat("the last of all", x.plugged(Sound.PLUG, 5 + 15), 8.0f);
        dueEchoes(x, 1, 2, 3, 4, 5, 6, 7, 8);
        x.track(0, Sound.SAMPLES, -16, false);
        x.render(1);
        x.rounds(0, 200);
        dueEchoes(x, 2, 4, 6, 8, 8, 8, 8, 8);
    }

    private static ScoreThreads lined(int kind, int n) {
        ScoreThreads x = new ScoreThreads();
        x.clip(3, 8);
        x.plug(kind, Checks.bits(1.0), 3);
        x.line(0, n);
        x.track(0, 0, 0, false);
        x.chain(0, 0, 0);
        x.on(0, true);
        x.render(1);
        x.rounds(0, 200);
        return x;
    }

    private static void echoesWithoutLine() {
        ScoreThreads x = lined(ECHO, ScoreThreads.NONE);
        due("no line", Sound.failure(x), NULL);
        due("nothing went through", x.plugged(0, 2), 0);
        due("at", x.plugged(0, 3), 0);
    }

    private static void echoesWithoutSamples() {
        dueFailure(ECHO, 1.0f, 0, 1.0f, INDEX);
        dueFailure(ECHO, 1.0f, 1, 1.0f, NO_FAULT);
        ScoreThreads x = lined(ECHO, 0);
        due("a line of none", Sound.failure(x), INDEX);
        due("nothing went through it", x.plugged(0, 2), 0);
        due("at of it", x.plugged(0, 3), 0);
        due("a line of one", Sound.failure(lined(ECHO, 1)), NO_FAULT);
    }

    private static void echoesAreFloats() {
        // the product is a float ahead of the sum: with a double in between it would be 0.42857143
        dueEchoes(Sound.through(ECHO, 0.1f, 1, 9 / 7.0f, 0.3f), 9 / 7.0f, 0.42857146f);
    }

    // "5 BELL (an ECHO, too): the greater of what an ECHO makes and a."

    private static void bellsTakeTheGreater() {
        dueMade(BELL, 0.5f, 1, 0.5f, 0.5f);
        dueMade(BELL, 0.5f, 1, Math.nextUp(0.5f), Math.nextUp(0.5f));
        dueMade(BELL, 0.5f, 1, Math.nextDown(0.5f), 0.5f);
        dueMade(BELL, -0.5f, 1, -0.5f, -0.5f);
        dueMade(BELL, -0.5f, 1, Math.nextDown(-0.5f), -0.5f);
        dueMade(BELL, -0.5f, 1, Math.nextUp(-0.5f), Math.nextUp(-0.5f));
        dueMade(BELL, 8.0f, 1, 1.0f, 8.0f);
        dueMade(BELL, -8.0f, 1, -8.0f, -8.0f);
        ScoreThreads x = Sound.through(BELL, 0.5f, 8, -1, -1, -1, -1, -1, -1, -1, -1);
        checks.dueFloat("in its line lies what an echo makes", x.plugged(Sound.PLUG, 5), -1.0f);
    }

    private static void bellsWithoutLine() {
        due("no line", Sound.failure(lined(BELL, ScoreThreads.NONE)), NULL);
        due("a line of none", Sound.failure(lined(BELL, 0)), INDEX);
        due("a line of one", Sound.failure(lined(BELL, 1)), NO_FAULT);
        dueFailure(BELL, 1.0f, 0, 1.0f, INDEX);
    }

    // "6 GATE: x, if its size is not below that of a, else 0.0 with the sign of x."

    private static void gatesAtTheSize() {
        float[] sizes = {0.5f, -0.5f};
        for (float a : sizes) {
            dueMade(GATE, a, 0, 0.5f, 0.5f);
            dueMade(GATE, a, 0, -0.5f, -0.5f);
            dueMade(GATE, a, 0, Math.nextUp(0.5f), Math.nextUp(0.5f));
            dueMade(GATE, a, 0, Math.nextDown(-0.5f), Math.nextDown(-0.5f));
        }
        dueMade(GATE, 8.0f, 0, 8.0f, 8.0f);
        dueMade(GATE, -8.0f, 0, -8.0f, -8.0f);
        dueMade(GATE, 8.0f, 0, BELOW_8, 0.0f);
    }

    private static void gatesKeepTheSign() {
        float[] sizes = {0.5f, -0.5f};
        for (float a : sizes) {
            dueMade(GATE, a, 0, Math.nextDown(0.5f), 0.0f);
            dueMade(GATE, a, 0, Math.nextUp(-0.5f), -0.0f);
            dueMade(GATE, a, 0, 0.0f, 0.0f);
            dueMade(GATE, a, 0, -0.0f, -0.0f);
            dueMade(GATE, a, 0, Float.MIN_VALUE, 0.0f);
            dueMade(GATE, a, 0, -Float.MIN_VALUE, -0.0f);
        }
    }

    private static void gatesOfZero() {
        dueMade(GATE, 0.0f, 0, Float.MIN_VALUE, Float.MIN_VALUE);
        dueMade(GATE, -0.0f, 0, -Float.MIN_VALUE, -Float.MIN_VALUE);
        dueMade(GATE, 0.0f, 0, -0.0f, -0.0f);
        dueMade(GATE, -0.0f, 0, 0.0f, 0.0f);
    }

    // "7 TABLE: the SAMPLE of number (x and 8, times 4, cut) of CLIP n (INDEX)."

    private static void tablesFromEndToEnd() {
        dueMade(TABLE, 0, Sound.STEPLADDER, -8.0f, 0.0f);
        dueMade(TABLE, 0, Sound.STEPLADDER, 0.0f, 32 / 128.0f);
        dueMade(TABLE, 0, Sound.STEPLADDER, 7.75f, 63 / 128.0f);
        dueMade(TABLE, 0, Sound.STEPLADDER, 7.999f, 63 / 128.0f);
        dueFailure(TABLE, 0, Sound.STEPLADDER, 8.0f, INDEX);
        // x and 8 is a float, too: 16.0
        dueFailure(TABLE, 0, Sound.STEPLADDER, BELOW_8, INDEX);
    }

    private static void tablesAreCut() {
        dueMade(TABLE, 0, Sound.STEPLADDER, -7.75f, 1 / 128.0f);
        dueMade(TABLE, 0, Sound.STEPLADDER, Math.nextDown(-7.75f), 0.0f);
        dueMade(TABLE, 0, Sound.STEPLADDER, 0.25f, 33 / 128.0f);
        dueMade(TABLE, 0, Sound.STEPLADDER, 0.249f, 32 / 128.0f);
        dueMade(TABLE, 0, Sound.STEPLADDER, -0.001f, 31 / 128.0f);
    }

    /** What a TABLE of the first n numbers 0.5 meets with 8 times the same SAMPLE. */
    private static ScoreThreads tabled(int n, float sample) {
        ScoreThreads x = new ScoreThreads();
        x.clip(3, 8);
        x.clip(0, n);
        for (int i = 0; i < 8; i++) {
            x.number(0, 3, i, word(sample));
        }
        for (int i = 0; i < n; i++) {
            x.number(1, 0, i, 64);
        }
        x.plug(TABLE, 0, 1);
        x.track(0, 0, 0, true);
        x.chain(0, 0, 0);
        x.on(0, true);
        x.render(1);
        x.rounds(0, 200);
        return x;
    }

    private static void tablesBeyondTheClip() {
        due("the last number", Sound.failure(tabled(33, 0.249f)), NO_FAULT);
        checks.dueFloat("its sample", tabled(33, 0.249f).out(7), 0.5f);
        due("one behind it", Sound.failure(tabled(33, 0.25f)), INDEX);
        due("the only number", Sound.failure(tabled(1, -8.0f)), NO_FAULT);
        due("behind the only one", Sound.failure(tabled(1, -7.75f)), INDEX);
        due("number 63", Sound.failure(tabled(64, 7.75f)), NO_FAULT);
        due("number 64", Sound.failure(tabled(64, 8.0f)), INDEX);
    }

    private static void tablesOfNoNumbers() {
        due("a clip of none, from its beginning", Sound.failure(tabled(0, -8.0f)), INDEX);
        due("a clip of none", Sound.failure(tabled(0, 0.0f)), INDEX);
        due("nothing went through it", tabled(0, 0.0f).plugged(0, 2), 0);
    }

    // "The TAIL of a PLUG (an int): GAIN, STEPS, GATE, TABLE 0; WARM 1 more than a GAIN; FOLD 2 more than a WARM;
    // ECHO n; BELL 3 more than an ECHO."

    private static void dueTail(int kind, int n, int want) {
        ScoreThreads x = new ScoreThreads();
        x.clip(0, 0);
        x.plug(kind, 0, n);
        due("tail of kind " + kind + " with " + n, x.plugged(0, 1), want);
    }

    private static void tails() {
        int[] any = {Integer.MIN_VALUE, -1, 0, 1, Integer.MAX_VALUE};
        for (int n : any) {
            dueTail(GAIN, n, 0);
            dueTail(WARM, n, 1);
            dueTail(FOLD, n, 3);
            dueTail(GATE, n, 0);
        }
        dueTail(STEPS, -64, 0);
        dueTail(STEPS, 64, 0);
        dueTail(TABLE, 0, 0);
        dueTail(ECHO, 0, 0);
        dueTail(ECHO, 1, 1);
        dueTail(ECHO, 16, 16);
        dueTail(BELL, 0, 3);
        dueTail(BELL, 1, 4);
        dueTail(BELL, 16, 19);
    }

    // "TRACKS 0 .. 7 are ON or not (not at first), .. and a CHAIN of places 0 .. 3 with PLUGS or nothing;
    // a PURE one's takes GAINS alone (no TRACK is at first)."

    private static void eightTracks() {
        ScoreThreads x = new ScoreThreads();
        for (int t = 0; t < 8; t++) {
            due("track " + t, x.on(t, true), 1);
            due("is on " + t, x.told(t, 0), 1);
        }
        due("no track 8", x.on(8, true), ScoreThreads.UNKNOWN);
        due("no track -1", x.on(-1, true), ScoreThreads.UNKNOWN);
        due("told of no track 8", x.told(8, 0), ScoreThreads.UNKNOWN);
        due("told of no track -1", x.told(-1, 0), ScoreThreads.UNKNOWN);
    }

    private static void fourPlaces() {
        ScoreThreads x = new ScoreThreads();
        x.plug(GAIN, 0, 0);
        for (int j = 0; j < 4; j++) {
            due("nothing at first at " + j, x.told(0, 6 + j), ScoreThreads.NONE);
            due("place " + j, x.chain(0, j, 0), 1);
            due("plug at " + j, x.told(0, 6 + j), 0);
        }
        due("no place 4", x.chain(0, 4, 0), -12);
        due("no place -1", x.chain(0, -1, 0), -12);
        due("no place 4 is told", x.told(0, 10), -12);
    }

    private static void pureTakesGainsAlone() {
        ScoreThreads x = new ScoreThreads();
        x.clip(0, 0);
        for (int kind = 0; kind < 8; kind++) {
            x.plug(kind, 0, 0);
            due("not pure at first, takes " + kind, x.chain(0, 0, kind), 1);
        }
        x.pure(0, true);
        for (int kind = 0; kind < 8; kind++) {
            due("pure takes " + kind, x.chain(0, 0, kind), kind <= FOLD ? 1 : -14);
        }
        due("pure takes nothing, too", x.chain(0, 0, ScoreThreads.NONE), 1);
    }
}
