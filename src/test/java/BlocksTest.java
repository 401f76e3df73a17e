/** The sentences of part 2 (a RUN) that name an edge: a test for each, with its sentence above it. */
public final class BlocksTest {
    private static final int GAIN = 0, STEPS = 3, ECHO = 4, TABLE = 7;
    private static final int OPEN = 1, HELD = 2, DONE = 3, FAILED = 4, SILENT = 5;
    private static final int NULL = 1, INDEX = 2, ZERO = 6;
    private static final int NONE = ScoreThreads.NONE, FULL = ScoreThreads.FULL;
    private static final Checks checks = new Checks();

    public static void main(String[] args) {
        tracksThatAreOn();
        chainsOfNothing();
        placesOfNothing();
        loadedFromTheClip();
        loadedAheadOfTheClip();
        loadedBehindTheClip();
        loadedByBlocksSinceTheBeginning();
        loadedWhereAnIntWraps();
        loadedFromNoNumbers();
        strictTakesAllOrNothing();
        strictWhereAnIntWraps();
        strictFromNoNumbers();
        loadedWithoutClip();
        failsAtAnySample();
        fourWorkers();
        waitsForTheLesser();
        doesNotWaitForTheGreater();
        doesNotWaitForOneThatIsNotOn();
        doesNotWaitForOneWithoutThisPlug();
        waitsForAllPlaces();
        doesNotWaitForPlacesBehind();
        doesNotWaitForDone();
        doesNotWaitForFailed();
        takesTheLeastOpen();
        openAheadOfFailed();
        againWhenNobodyHasOne();
        againFromTheLeast();
        mixesWhenNobodyHasOne();
        mixesAtOnceWithoutTracks();
        failsTwiceInABlock();
        failsAnewInTheNextBlock();
        silentIsZero();
        failureLeavesThePlug();
        levelsAreClipped();
        joinedInPairs();
        sumsAreClipped();
        notOnIsZero();
        joinedAsFloats();
        faultsByTracks();
        aHundredFaults();
        moreThanAHundredFaults();
        editsAtOnceHaveNoLimit();
        thirtyEdits();
        whatIsRefusedIsNotQueued();
        whatWillBeFoundIsQueued();
        roomBehindTheBlock();
        editsWaitForTheEndOfABlock();
        editsAreDoneInOrder();
        editsAreDoneAtTheEnd();
        editsMeetWhatIsThere();
        editsWithFindingsChangeNothing();
        endsBehindItsLastBlock();
        endsWhenToldToStop();
        stopsInItsLastBlock();
        checks.finish();
    }

    private static void due(String call, long got, long want) {
        checks.due(call, got, want);
    }

    /** Number i of CLIP 0 is (i + 1) / 16; so many TRACKS are ON from number 0 on. */
    private static ScoreThreads studio(int tracks) {
        ScoreThreads x = new ScoreThreads();
        x.clip(3, 64);
        for (int i = 0; i < 64; i++) {
            x.number(0, 3, i, Checks.bits((i + 1) / 16.0));
        }
        for (int t = 0; t < tracks; t++) {
            x.track(t, 0, 0, false);
            x.on(t, true);
        }
        return x;
    }

    private static void dueNumber(String name, int bits, int number) {
        checks.dueFloat(name, bits, number < 0 || number > 63 ? 0.0f : (number + 1) / 16.0f);
    }

    private static void block(ScoreThreads x) {
        x.render(1);
        x.rounds(0, 200);
    }

    // "In a BLOCK k each TRACK that is ON is LOADED, then goes through the PLUGS of its CHAIN, place by place
    // (none: nothing is done)."

    private static void tracksThatAreOn() {
        ScoreThreads x = studio(3);
        x.on(1, false);
        x.render(1);
        due("0 is open", x.told(0, 20), OPEN);
        due("1 is nothing", x.told(1, 20), 0);
        due("2 is open", x.told(2, 20), OPEN);
        due("two are loaded, then mixed", x.rounds(0, 200), 3);
        checks.dueFloat("two are heard", x.out(0), 2 / 16.0f);
    }

    private static void chainsOfNothing() {
        ScoreThreads x = studio(1);
        x.render(1);
        due("loaded", x.turn(0), 1);
        due("done as it is loaded", x.told(0, 20), DONE);
        due("the worker has none", x.worker(0), NONE);
        due("mixed", x.turn(0), 4);
        for (int i = 0; i < 8; i++) {
            dueNumber("as it was " + i, x.out(i), i);
        }
    }

    private static void placesOfNothing() {
        ScoreThreads x = studio(1);
        x.plug(GAIN, Checks.bits(2), 0);
        x.chain(0, 3, 0);
        x.render(1);
        due("loaded", x.turn(0), 1);
        due("has it", x.told(0, 20), HELD);
        due("through place 3", x.turn(0), 1);
        due("done behind the last", x.told(0, 20), DONE);
        due("mixed", x.turn(0), 4);
        checks.dueFloat("twice as much", x.out(0), 2 / 16.0f);
    }

    // "LOADED: its 8 SAMPLES i = 0 .. 7 are those of the numbers START + 8 k + i (an int that wraps) of its CLIP;
    // where there is no such one: 0.0, if it is not STRICT, else INDEX; without a CLIP: NULL."

    private static ScoreThreads loaded(int start, boolean strict) {
        ScoreThreads x = studio(1);
        x.track(0, 0, start, strict);
        block(x);
        return x;
    }

    private static void dueLoaded(int start) {
        ScoreThreads x = loaded(start, false);
        for (int i = 0; i < 8; i++) {
            dueNumber("from " + start + ", " + i, x.out(i), start + i);
        }
        due("nothing failed from " + start, x.about(4), 0);
    }

    private static void loadedFromTheClip() {
        dueLoaded(0);
        dueLoaded(1);
        dueLoaded(56);
    }

    private static void loadedAheadOfTheClip() {
        dueLoaded(-1);
        dueLoaded(-7);
        dueLoaded(-8);
        dueLoaded(-9);
    }

    private static void loadedBehindTheClip() {
        dueLoaded(57);
        dueLoaded(63);
        dueLoaded(64);
    }

    private static void loadedByBlocksSinceTheBeginning() {
        ScoreThreads x = studio(1);
        x.track(0, 0, 4, false);
        x.render(6);
        x.rounds(0, 200);
        x.render(3);
        x.rounds(0, 200);
        for (int i = 0; i < 72; i++) {
            dueNumber("sample " + i, x.out(i), 4 + i);
        }
    }

    private static void loadedWhereAnIntWraps() {
        dueLoaded(Integer.MAX_VALUE);
        dueLoaded(Integer.MAX_VALUE - 3);
        dueLoaded(Integer.MAX_VALUE - 7);
        dueLoaded(Integer.MIN_VALUE);
        ScoreThreads x = studio(1);
        x.track(0, 0, Integer.MAX_VALUE - 11, false);
        x.render(8);
        due("8 blocks", x.rounds(0, 200), 16);
        for (int i = 0; i < 64; i++) {
            due("none there " + i, x.out(i), 0);
        }
        due("nothing failed", x.about(4), 0);
    }

    private static void loadedFromNoNumbers() {
        ScoreThreads x = studio(1);
        x.clip(3, 0);
        x.track(0, 1, 0, false);
        block(x);
        due("no number is 0.0", x.out(0), 0);
        due("and does not fail", x.about(4), 0);
    }

    private static void dueStrict(int start, int finding) {
        ScoreThreads x = loaded(start, true);
        due("strict from " + start, x.fault(0, 3), finding);
        dueNumber("its sample", x.out(7), finding == NONE ? start + 7 : NONE);
    }

    private static void strictTakesAllOrNothing() {
        dueStrict(0, NONE);
        dueStrict(56, NONE);
        dueStrict(-1, INDEX);
        dueStrict(57, INDEX);
        dueStrict(-8, INDEX);
        dueStrict(64, INDEX);
        ScoreThreads x = studio(1);
        x.track(0, 0, 48, true);
        x.render(3);
        due("two blocks are there, the third is not", x.rounds(0, 200), 7);
        due("failed in block 2", x.fault(0, 1), 2);
        due("twice, and no more", x.about(4), 2);
    }

    private static void strictWhereAnIntWraps() {
        dueStrict(Integer.MAX_VALUE, INDEX);
        dueStrict(Integer.MAX_VALUE - 7, INDEX);
        dueStrict(Integer.MIN_VALUE, INDEX);
        ScoreThreads x = studio(1);
        x.track(0, 0, Integer.MAX_VALUE - 11, true);
        x.render(3);
        x.rounds(0, 200);
        for (int k = 0; k < 3; k++) {
            due("index in block " + k, x.fault(2 * k, 3), INDEX);
        }
    }

    private static void strictFromNoNumbers() {
        ScoreThreads x = studio(1);
        x.clip(3, 0);
        x.track(0, 1, 0, true);
        block(x);
        due("no number", x.fault(0, 3), INDEX);
        due("as it was loaded", x.fault(0, 2), -1);
    }

    private static void loadedWithoutClip() {
        ScoreThreads x = studio(2);
        x.track(0, NONE, 0, false);
        x.track(1, NONE, 0, true);
        block(x);
        due("without a clip", x.fault(0, 3), NULL);
        due("without a clip, strict", x.fault(2, 3), NULL);
        due("as it was loaded", x.fault(2, 2), -1);
        due("not heard", x.out(0), 0);
    }

    // "Through a PLUG go all 8, one by one."

    private static void failsAtAnySample() {
        for (int i = 0; i < 8; i++) {
            float[] samples = new float[8];
            samples[i] = 8.0f;
            ScoreThreads x = Sound.through(TABLE, 0, Sound.STEPLADDER, samples);
            due("fails at " + i, x.fault(0, 3), INDEX);
            due("did not go through", x.plugged(Sound.PLUG, 2), 0);
            due("all 8 are silent", x.out((i + 1) % 8), 0);
        }
    }

    // "WORKERS 0 .. 3 take turns."

    private static void fourWorkers() {
        ScoreThreads x = studio(5);
        x.plug(GAIN, 0, 0);
        for (int t = 0; t < 5; t++) {
            x.chain(t, 0, 0);
        }
        x.hire(4);
        x.render(1);
        for (int w = 0; w < 4; w++) {
            due("worker " + w + " begins", x.turn(w), 1);
            due("worker " + w + " has it", x.worker(w), w);
        }
        due("no worker 4", x.turn(4), ScoreThreads.UNKNOWN);
        due("track 4 is open", x.told(4, 20), OPEN);
    }

    // "A WORKER with a TRACK: its next PLUG, if each TRACK that is ON with a lesser number, and has this PLUG at some
    // place of its CHAIN, has gone through it at all of these, or is DONE, FAILED or SILENT in this BLOCK; else it waits."

    /** TRACKS 0 and 1 with one PLUG at place 0, both LOADED by the WORKERS of the same numbers. */
    private static ScoreThreads pair() {
        ScoreThreads x = studio(2);
        x.plug(GAIN, Checks.bits(1), 0);
        x.plug(STEPS, 0, 0);
        x.chain(0, 0, 0);
        x.chain(1, 0, 0);
        return x;
    }

    private static void begin(ScoreThreads x) {
        x.render(1);
        x.turn(0);
        x.turn(1);
    }

    private static void waitsForTheLesser() {
        ScoreThreads x = pair();
        begin(x);
        due("1 waits", x.turn(1), 0);
        due("1 waits still", x.turn(1), 0);
        due("it waited twice", x.about(10), 2);
        due("nothing went through", x.plugged(0, 2), 0);
        due("0 goes", x.turn(0), 1);
        due("1 goes", x.turn(1), 1);
    }

    private static void doesNotWaitForTheGreater() {
        ScoreThreads x = pair();
        begin(x);
        due("0 does not wait for 1", x.turn(0), 1);
        due("1 has not gone", x.told(1, 20), HELD);
    }

    private static void doesNotWaitForOneThatIsNotOn() {
        ScoreThreads x = pair();
        x.on(0, false);
        x.render(1);
        due("1 is loaded", x.turn(1), 1);
        due("1 goes", x.turn(1), 1);
        due("1 is done", x.told(1, 20), DONE);
    }

    private static void waitsForAllPlaces() {
        for (int last = 1; last < 4; last++) {
            ScoreThreads x = pair();
            x.chain(0, last, 0);
            begin(x);
            due("0 goes the first time", x.turn(0), 1);
            due("1 waits for place " + last, x.turn(1), 0);
            due("0 goes the second time", x.turn(0), 1);
            due("1 goes", x.turn(1), 1);
        }
        ScoreThreads x = pair();
        x.plug(GAIN, Checks.bits(1), 0);
        x.chain(0, 0, 2);
        x.chain(0, 3, 0);
        begin(x);
        due("1 waits for what is not next", x.turn(1), 0);
    }

    private static void doesNotWaitForOneWithoutThisPlug() {
        ScoreThreads x = pair();
        x.plug(GAIN, Checks.bits(1), 0);
        x.chain(0, 0, 2);
        begin(x);
        due("1 goes", x.turn(1), 1);
        due("0 has not gone", x.told(0, 20), HELD);
        ScoreThreads y = pair();
        y.chain(0, 0, NONE);
        y.chain(0, 3, 1);
        begin(y);
        due("1 goes, as the lesser one has it no more", y.turn(1), 1);
    }

    private static void doesNotWaitForPlacesBehind() {
        for (int next = 1; next < 4; next++) {
            ScoreThreads x = pair();
            x.plug(GAIN, Checks.bits(1), 0);
            x.chain(0, next, 2);
            begin(x);
            due("1 waits", x.turn(1), 0);
            due("0 goes", x.turn(0), 1);
            due("0 is not done", x.told(0, 20), HELD);
            due("1 goes", x.turn(1), 1);
        }
    }

    private static void doesNotWaitForDone() {
        ScoreThreads x = pair();
        begin(x);
        due("0 goes", x.turn(0), 1);
        due("0 is done", x.told(0, 20), DONE);
        due("1 goes", x.turn(1), 1);
    }

    private static void doesNotWaitForFailed() {
        ScoreThreads x = pair();
        x.chain(0, 0, 1);
        x.chain(0, 1, 0);
        begin(x);
        due("1 waits", x.turn(1), 0);
        due("0 fails ahead of it", x.turn(0), 2);
        due("0 failed", x.told(0, 20), FAILED);
        due("1 goes", x.turn(1), 1);
    }

    // "A WORKER without one: if TRACKS are OPEN (ON, not begun in this BLOCK): it takes that with the least number,
    // which is LOADED. Else, if no WORKER has a TRACK and some are FAILED: it takes that with the least number AGAIN ..
    // Else, if no WORKER has one: it MIXES. Else it waits."

    private static void takesTheLeastOpen() {
        ScoreThreads x = studio(8);
        x.plug(GAIN, 0, 0);
        for (int t = 0; t < 8; t++) {
            x.chain(t, t % 4, 0);
            x.on(t, t == 2 || t == 7);
        }
        x.render(1);
        x.turn(1);
        due("the least", x.worker(1), 2);
        x.turn(0);
        due("the other", x.worker(0), 7);
    }

    private static void openAheadOfFailed() {
        ScoreThreads x = studio(2);
        x.track(0, NONE, 0, false);
        x.render(1);
        due("0 fails", x.turn(0), 2);
        due("1 is open still", x.told(1, 20), OPEN);
        due("1 is loaded", x.turn(0), 1);
        due("0 failed, and is not taken again yet", x.told(0, 20), FAILED);
        due("1 is done", x.told(1, 20), DONE);
        due("0 again", x.turn(0), 2);
        due("0 is silent", x.told(0, 20), SILENT);
    }

    private static void againWhenNobodyHasOne() {
        ScoreThreads x = pair();
        x.track(0, NONE, 0, false);
        begin(x);
        due("0 failed", x.told(0, 20), FAILED);
        due("1 is had", x.told(1, 20), HELD);
        due("0 is not taken while 1 is had", x.turn(0), 0);
        due("1 goes", x.turn(1), 1);
        due("0 again", x.turn(0), 2);
        due("silent", x.told(0, 20), SILENT);
    }

    private static void againFromTheLeast() {
        ScoreThreads x = studio(4);
        x.track(1, NONE, 0, false);
        x.track(3, NONE, 0, false);
        x.render(1);
        due("all begin", x.rounds(0, 4), 4);
        due("1 failed", x.told(1, 20), FAILED);
        due("3 failed", x.told(3, 20), FAILED);
        due("again", x.turn(1), 2);
        due("1 is silent", x.told(1, 20), SILENT);
        due("3 is not", x.told(3, 20), FAILED);
        due("again, too", x.turn(0), 2);
        due("3 is silent", x.told(3, 20), SILENT);
        due("mixed", x.turn(1), 4);
    }

    private static void mixesWhenNobodyHasOne() {
        ScoreThreads x = pair();
        x.on(1, false);
        x.render(1);
        x.turn(0);
        due("1 waits for 0", x.turn(1), 0);
        due("nothing is mixed", x.about(3), 0);
        due("0 goes", x.turn(0), 1);
        due("1 mixes", x.turn(1), 4);
        due("mixed", x.about(3), 1);
    }

    private static void mixesAtOnceWithoutTracks() {
        ScoreThreads x = new ScoreThreads();
        x.render(2);
        due("mixed", x.turn(0), 3);
        due("mixed, the end", x.turn(1), 4);
        due("a block of 0.0", x.out(15), 0);
        due("two blocks", x.about(3), 2);
    }

    // "What fails (NULL, INDEX, ZERO) leaves the PLUG as it was ahead of the 8 SAMPLES. The first time in a BLOCK the
    // TRACK is FAILED; the second time SILENT: its SAMPLES are 0.0; the WORKER has none then."

    private static void failsTwiceInABlock() {
        ScoreThreads x = pair();
        x.chain(0, 0, 1);
        x.on(1, false);
        x.render(1);
        due("loaded", x.turn(0), 1);
        due("fails", x.turn(0), 2);
        due("failed", x.told(0, 20), FAILED);
        due("the worker has none", x.worker(0), NONE);
        due("fails again, from its plug on", x.turn(1), 2);
        due("silent", x.told(0, 20), SILENT);
        due("this worker has none", x.worker(1), NONE);
        due("mixed", x.turn(0), 4);
        due("two faults", x.about(4), 2);
    }

    private static void failsAnewInTheNextBlock() {
        ScoreThreads x = studio(1);
        x.track(0, NONE, 0, false);
        x.render(2);
        for (int k = 0; k < 2; k++) {
            due("open", x.told(0, 20), OPEN);
            due("fails", x.turn(0), 2);
            due("failed", x.told(0, 20), FAILED);
            due("fails again", x.turn(0), 2);
            due("silent", x.told(0, 20), SILENT);
            due("mixed", x.turn(0), 3 + k);
        }
        due("four faults", x.about(4), 4);
        due("the first time in the second block", x.fault(2, 4), 1);
    }

    private static void silentIsZero() {
        ScoreThreads x = pair();
        x.on(1, false);
        x.level(0, Checks.bits(8));
        block(x);
        checks.dueFloat("heard", x.out(0), 0.5f);
        x.chain(0, 3, 1);
        block(x);
        for (int i = 8; i < 16; i++) {
            checks.dueFloat("silent " + i, x.out(i), 0.0f);
        }
    }

    private static void failureLeavesThePlug() {
        ScoreThreads x = studio(2);
        x.plug(ECHO, Checks.bits(0.5), 3);
        x.plug(TABLE, 0, 0);
        x.number(0, 3, 7, Checks.bits(8));
        x.chain(0, 0, 0);
        x.chain(0, 1, 1);
        x.chain(1, 0, 1);
        block(x);
        due("an echo ahead of what fails was passed once", x.plugged(0, 2), 1);
        due("at", x.plugged(0, 3), 2);
        due("the table was not passed", x.plugged(1, 2), 0);
        x.line(0, 0);
        block(x);
        due("an echo without samples was not passed", x.plugged(0, 2), 1);
        due("at stays", x.plugged(0, 3), 0);
        due("zero is noted", Sound.failure(Sound.through(STEPS, 0, 0, 1)), ZERO);
        due("not passed", Sound.through(STEPS, 0, 0, 1).plugged(Sound.PLUG, 2), 0);
    }

    // "MIXING: of each TRACK its SAMPLES times its LEVEL, CLIPPED (0.0 of those that are not ON); joined in pairs,
    // TRACK 0 with 1, 2 with 3, 4 with 5, 6 with 7; then the first two with each other, and the last two; then these:
    // each sum CLIPPED."

    private static ScoreThreads mixed(float[] samples, float[] levels) {
        ScoreThreads x = new ScoreThreads();
        x.clip(3, 64);
        for (int t = 0; t < samples.length; t++) {
            for (int i = 0; i < 8; i++) {
                x.number(0, 3, 8 * t + i, Float.floatToRawIntBits(samples[t]));
            }
            x.track(t, 0, 8 * t, true);
            x.level(t, Float.floatToRawIntBits(levels[t]));
            x.on(t, true);
        }
        block(x);
        return x;
    }

    private static void dueMixed(float want, float... samples) {
        float[] levels = new float[samples.length];
        java.util.Arrays.fill(levels, 1.0f);
        checks.dueFloat("mixed " + java.util.Arrays.toString(samples), mixed(samples, levels).out(7), want);
        float[] less = new float[samples.length];
        for (int t = 0; t < samples.length; t++) {
            less[t] = -samples[t];
        }
        float other = want == 0.0f ? 0.0f : -want;
        checks.dueFloat("mixed " + java.util.Arrays.toString(less), mixed(less, levels).out(7), other);
    }

    private static void dueLevelled(float want, float[] samples, float... levels) {
        checks.dueFloat("levels " + java.util.Arrays.toString(levels), mixed(samples, levels).out(0), want);
    }

    private static void levelsAreClipped() {
        dueLevelled(8.0f, new float[] {1, 0}, 8, 1);
        dueLevelled(0.0f, new float[] {2, -8}, 8, 1);
        dueLevelled(0.0f, new float[] {-2, 8}, 8, 1);
        dueLevelled(-0.5f, new float[] {0.9375f, -8}, 8, 1);
        dueLevelled(0.0f, new float[] {8, 8}, 0, 0);
        dueLevelled(8.0f, new float[] {0, 0, 0, 0, 0, 0, 0, 8}, 1, 1, 1, 1, 1, 1, 1, 8);
    }

    private static void joinedInPairs() {
        // whatever is joined out of its pair, is clipped or is not
        dueMixed(8.0f, 8, -8, 8);
        dueMixed(8.0f, 0, 8, 8, -8);
        dueMixed(8.0f, 0, 0, 0, 0, 8, -8, 8);
        dueMixed(8.0f, 0, 0, 0, 0, 0, 8, 8, -8);
        dueMixed(8.0f, 8, 0, -8, 0, 8);
        dueMixed(8.0f, 8, 0, 0, 0, 8, 0, -8);
        dueMixed(0.0f, 8, 0, 0, 8, -8, 0, 0, 0);
        dueMixed(0.0f, 0, 0, 0, 8, 8, -8, -8, 0);
    }

    private static void sumsAreClipped() {
        dueMixed(0.0f, 8, 8, -8);
        dueMixed(0.0f, -8, 0, 8, 8);
        dueMixed(0.0f, 0, 0, 0, 0, 8, 8, -8);
        dueMixed(0.0f, 0, 0, 0, 0, -8, 0, 8, 8);
        dueMixed(0.0f, 8, 0, 8, 0, -8);
        dueMixed(0.0f, -8, 0, 0, 0, 8, 0, 8);
        dueMixed(8.0f, 8, 0, 0, 0, 8);
        dueMixed(8.0f, 4, 4);
        dueMixed(8.0f, 1, 1, 1, 1, 1, 1, 1, 1);
        dueMixed(8.0f, 8, 8, 8, 8, 8, 8, 8, 8);
        dueMixed(7.5f, 1, 1, 1, 1, 1, 1, 1, 0.5f);
    }

    private static void notOnIsZero() {
        ScoreThreads x = studio(2);
        block(x);
        x.on(1, false);
        block(x);
        dueNumber("one alone", x.out(8), 8);
        x.on(0, false);
        block(x);
        due("none", x.out(16), 0);
    }

    private static void joinedAsFloats() {
        // with doubles between the products and the sum it would be 0.13000001
        dueLevelled(0.13f, new float[] {1.0f, 0.3f}, 0.1f, 0.1f);
    }

    // "What failed is noted as FAULTS, TRACK by TRACK, the first time ahead of the second (100 at most; more are
    // counted alone)."

    private static void faultsByTracks() {
        ScoreThreads x = pair();
        x.chain(0, 1, 1);
        x.track(1, NONE, 0, false);
        begin(x);
        due("1 failed first", x.told(1, 20), FAILED);
        due("0 has not", x.told(0, 20), HELD);
        x.rounds(0, 200);
        int[][] wanted = {{0, 0, 1, ZERO, 1}, {0, 0, 1, ZERO, 2}, {1, 0, -1, NULL, 1}, {1, 0, -1, NULL, 2}};
        for (int i = 0; i < wanted.length; i++) {
            for (int what = 0; what < 5; what++) {
                due("fault " + i + " " + what, x.fault(i, what), wanted[i][what]);
            }
        }
        due("no more", x.fault(4, 0), NONE);
    }

    /** So many TRACKS are ON and have no CLIP. */
    private static ScoreThreads failing(int tracks) {
        ScoreThreads x = new ScoreThreads();
        for (int t = 0; t < tracks; t++) {
            x.on(t, true);
        }
        x.render(8);
        x.rounds(0, 200);
        return x;
    }

    private static void dueFault(ScoreThreads x, int i, int track, int block, int time) {
        int[] wanted = {track, block, -1, NULL, time};
        for (int what = 0; what < 5; what++) {
            due("fault " + i + " " + what, x.fault(i, what), wanted[what]);
        }
    }

    private static void aHundredFaults() {
        ScoreThreads x = failing(5);
        x.render(2);
        x.rounds(0, 200);
        due("a hundred", x.about(4), 100);
        dueFault(x, 99, 4, 9, 2);
        due("no more", x.fault(100, 0), NONE);
        long before = x.digest();
        block(x);
        due("ten more are counted", x.about(4), 110);
        dueFault(x, 99, 4, 9, 2);
        dueFault(x, 0, 0, 0, 1);
        for (int what = 0; what < 5; what++) {
            due("they are not noted " + what, x.fault(100, what), NONE);
        }
        due("the block is in the digest", x.digest() == before ? 1 : 0, 0);
    }

    private static void moreThanAHundredFaults() {
        ScoreThreads x = failing(6);
        due("96", x.about(4), 96);
        dueFault(x, 95, 5, 7, 2);
        due("96 are noted", x.fault(96, 0), NONE);
        block(x);
        due("108", x.about(4), 108);
        dueFault(x, 96, 0, 8, 1);
        dueFault(x, 99, 1, 8, 2);
        due("100 are noted", x.fault(100, 0), NONE);
        due("100 are noted", x.fault(107, 0), NONE);
    }

    // "EDITS are track(), pure(), chain(), level(), on(), line(): while a RUN is under way they are queued (30 at most),
    // as they are told; else done at once."

    private static void editsAtOnceHaveNoLimit() {
        ScoreThreads x = new ScoreThreads();
        for (int e = 0; e < 62; e++) {
            due("edit " + e, x.on(e % 8, e % 3 == 0), 1);
        }
        due("62 were done", x.about(6), 62);
        due("none is queued", x.about(5), 0);
    }

    private static int edit(ScoreThreads x, int which) {
        switch (which) {
            case 0:
                return x.track(0, NONE, 0, false);
            case 1:
                return x.pure(0, false);
            case 2:
                return x.chain(0, 0, NONE);
            case 3:
                return x.level(0, 0);
            case 4:
                return x.on(0, false);
            default:
                return x.line(0, 1);
        }
    }

    private static void thirtyEdits() {
        for (int which = 0; which < 6; which++) {
            ScoreThreads x = new ScoreThreads();
            x.plug(ECHO, 0, 0);
            x.render(1);
            for (int e = 0; e < 29; e++) {
                x.on(7, true);
            }
            due("29 are queued", x.about(5), 29);
            due("the thirtieth of kind " + which, edit(x, which), 0);
            due("30 are queued", x.about(5), 30);
            due("the next of kind " + which, edit(x, which), FULL);
            due("30 are queued still", x.about(5), 30);
            due("mixed", x.turn(0), 4);
            due("30 were done", x.about(6), 30);
        }
    }

    private static void whatIsRefusedIsNotQueued() {
        ScoreThreads x = new ScoreThreads();
        x.plug(ECHO, 0, 0);
        x.render(1);
        x.track(8, NONE, 0, false);
        x.track(0, 0, 0, false);
        x.pure(8, true);
        x.chain(0, 0, 1);
        x.level(0, Checks.bits(-1));
        x.on(-1, true);
        x.line(0, 17);
        due("none is queued", x.about(5), 0);
        x.turn(0);
        due("none was done", x.about(6), 0);
    }

    private static void whatWillBeFoundIsQueued() {
        ScoreThreads x = new ScoreThreads();
        x.plug(ECHO, 0, 0);
        x.render(1);
        for (int e = 0; e < 30; e++) {
            due("edit " + e, e % 2 == 0 ? x.chain(0, 4, 0) : x.line(0, -2), 0);
        }
        due("full", x.on(0, true), FULL);
        x.turn(0);
        due("none was done", x.about(6), 0);
        due("none is queued", x.about(5), 0);
        due("index", x.found(2), 15);
        due("size", x.found(5), 15);
    }

    private static void roomBehindTheBlock() {
        ScoreThreads x = new ScoreThreads();
        x.render(3);
        for (int k = 0; k < 2; k++) {
            for (int e = 0; e < 30; e++) {
                due("edit " + e + " of block " + k, x.level(e % 8, Checks.bits(e / 8.0)), 0);
            }
            due("full in block " + k, x.on(0, true), FULL);
            due("mixed", x.turn(0), 3);
            due("none is queued", x.about(5), 0);
        }
        due("60 were done", x.about(6), 60);
    }

    // "Then EDITS that are queued are done, in order. Then the next BLOCK begins, or the RUN ENDS"

    private static void editsWaitForTheEndOfABlock() {
        ScoreThreads x = studio(2);
        x.on(1, false);
        x.plug(GAIN, Checks.bits(2), 0);
        x.render(3);
        x.chain(0, 0, 0);
        x.level(0, Checks.bits(4));
        x.on(1, true);
        due("nothing at place 0", x.told(0, 6), NONE);
        due("level 1", x.told(0, 4), Checks.bits(1));
        due("1 is not on", x.told(1, 0), 0);
        due("one load", x.turn(0), 1);
        due("mixed", x.turn(0), 3);
        due("1 is open", x.told(1, 20), OPEN);
        x.on(0, false);
        due("0 is on in this block", x.told(0, 20), OPEN);
        due("to the end", x.rounds(0, 200), 6);
        dueNumber("block 0", x.out(0), 0);
        checks.dueFloat("block 1", x.out(8), 9 / 16.0f * 8 + 9 / 16.0f);
        dueNumber("block 2", x.out(16), 16);
    }

    private static void editsAreDoneInOrder() {
        ScoreThreads x = studio(1);
        x.plug(GAIN, 0, 0);
        x.render(1);
        x.level(0, Checks.bits(2));
        x.level(0, Checks.bits(3));
        x.chain(1, 0, 0);
        x.pure(1, false);
        x.pure(2, false);
        x.chain(2, 0, 0);
        x.rounds(0, 200);
        due("the last level", x.told(0, 4), Checks.bits(3));
        due("a chain that was emptied", x.told(1, 6), NONE);
        due("a chain that was not", x.told(2, 6), 0);
    }

    private static void editsAreDoneAtTheEnd() {
        ScoreThreads x = studio(1);
        x.render(1);
        x.turn(0);
        due("queued", x.on(3, true), 0);
        due("mixed, the end", x.turn(0), 4);
        due("done", x.told(3, 0), 1);
        due("without a run", x.told(3, 20), 0);
        due("at once again", x.on(3, false), 1);
    }

    private static void editsMeetWhatIsThere() {
        ScoreThreads x = studio(0);
        x.plug(ECHO, 0, 2);
        x.pure(0, true);
        x.render(1);
        due("no gain, while it is pure", x.chain(0, 0, 0), 0);
        due("pure no more", x.pure(0, false), 0);
        due("no gain, now it is not", x.chain(0, 1, 0), 0);
        due("pure", x.pure(1, true), 0);
        due("no gain, now it is", x.chain(1, 0, 0), 0);
        x.turn(0);
        due("the first met store", x.told(0, 6), NONE);
        due("the second did not", x.told(0, 7), 0);
        due("the third met store", x.told(1, 6), NONE);
        due("store", x.found(4), 2);
    }

    // "A queued one that meets a FINDING when it is done changes nothing else."

    private static void editsWithFindingsChangeNothing() {
        int[] findings = {2, 2, 4, 3, 5};
        for (int which = 0; which < findings.length; which++) {
            ScoreThreads x = between();
            ScoreThreads twin = between();
            due("queued", unlucky(x, which), 0);
            due("not found yet", x.found(findings[which]), 0);
            // worker 0 loads and goes, worker 1 waits and mixes
            x.rounds(0, 4);
            twin.rounds(0, 4);
            new Twins(checks).same("finding " + findings[which], x, twin, findings[which]);
            due("going on", Twins.goOn(x), Twins.goOn(twin));
            new Twins(checks).same("finding, going on", x, twin, findings[which]);
        }
    }

    /** In a RUN, ahead of its first turn; TRACK 0 is PURE and ON. */
    private static ScoreThreads between() {
        ScoreThreads x = new ScoreThreads();
        x.clip(3, 8);
        x.number(0, 3, 1, Checks.bits(1));
        x.plug(GAIN, Checks.bits(2), 0);
        x.plug(ECHO, Checks.bits(0.5), 3);
        x.pure(0, true);
        x.track(0, 0, 0, false);
        x.chain(0, 2, 0);
        x.on(0, true);
        x.track(1, 0, 0, false);
        x.chain(1, 0, 1);
        x.render(2);
        return x;
    }

    private static int unlucky(ScoreThreads x, int which) {
        switch (which) {
            case 0:
                return x.chain(0, 4, 0);
            case 1:
                return x.chain(0, -1, NONE);
            case 2:
                return x.chain(0, 2, 1);
            case 3:
                return x.line(0, 4);
            default:
                return x.line(1, -2);
        }
    }

    // "Then the next BLOCK begins, or the RUN ENDS: behind its last BLOCK, or when it was told to STOP."

    private static void endsBehindItsLastBlock() {
        for (int n = 1; n <= 8; n++) {
            ScoreThreads x = new ScoreThreads();
            x.render(n);
            for (int k = 1; k < n; k++) {
                due("block " + k + " of " + n, x.turn(0), 3);
                due("under way", x.about(7), 1);
            }
            due("the last of " + n, x.turn(0), 4);
            due("no run", x.about(7), 0);
            due("blocks", x.about(3), n);
        }
    }

    private static void endsWhenToldToStop() {
        ScoreThreads x = studio(1);
        x.render(8);
        due("told ahead of all turns", x.stop(), 1);
        due("the block is done", x.turn(0), 1);
        due("and the run ended", x.turn(0), 4);
        due("one block", x.about(3), 1);
        dueNumber("it is heard", x.out(0), 0);
        due("the next run begins behind it", x.render(8), 1);
        due("and is not told to stop", x.rounds(0, 200), 16);
        x.render(3);
        x.rounds(0, 3);
        due("told within a block", x.stop(), 1);
        due("the end of this block", x.turn(0), 4);
        due("two blocks of it", x.about(3), 11);
    }

    private static void stopsInItsLastBlock() {
        ScoreThreads x = studio(1);
        x.render(1);
        due("told", x.stop(), 1);
        due("told already", x.stop(), 0);
        due("to the end", x.rounds(0, 200), 2);
        due("no run", x.stop(), ScoreThreads.STATE);
        x.render(2);
        due("two blocks", x.rounds(0, 200), 4);
    }
}
