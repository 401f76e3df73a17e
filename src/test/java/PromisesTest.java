/** What each promise names at its edges and does answer (what it refuses stands in RefusalsTest): a test for each sentence. */
public final class PromisesTest {
    private static final int NULL = -11, INDEX = -12, CAST = -13;
    private static final int NONE = ScoreThreads.NONE, UNKNOWN = ScoreThreads.UNKNOWN, OUTSIDE = ScoreThreads.OUTSIDE;
    private static final int STATE = ScoreThreads.STATE, FULL = ScoreThreads.FULL;
    private static final int MIN = Integer.MIN_VALUE, MAX = Integer.MAX_VALUE;
    private static final Checks checks = new Checks();

    public static void main(String[] args) {
        newObject();
        newObjectHasTwoWorkers();
        clipsOfEveryLane();
        clipsInARun();
        numbersByTheLowestBits();
        numbersThatAreEndless();
        numbersFromFirstToLast();
        numbersAreOfOneClip();
        samplesFromFirstToLast();
        plugsOfEveryKind();
        plugsWithAtItsEdges();
        plugsWithNAtItsEdges();
        plugsInARun();
        pluggedLines();
        pluggedFullLine();
        pluggedUses();
        tracksWithAndWithoutClip();
        tracksWithAnyStart();
        pureMakesANewChain();
        chainsTakeAndGiveBack();
        levelsAtTheirEdges();
        onTwice();
        linesAtTheirEdges();
        linesAreNew();
        hiresFromOneToFour();
        rendersFromOneToEight();
        rendersUpToSixtyFour();
        stoppedBlocksAreFree();
        turnsOfEveryKind();
        roundsOfNoTurns();
        roundsOfTwoHundred();
        roundsGoRound();
        roundsToTheEnd();
        stopsOnce();
        outFromFirstToLast();
        toldFromFirstToLast();
        toldInABlock();
        workersAndTheirTracks();
        faultsFromFirstToLast();
        foundByFinding();
        foundWhenItIsDone();
        aboutFromFirstToLast();
        aboutBlocksThatAreLeft();
        aboutStepsAndWaits();
        digestOfNothing();
        digestOfLines();
        digestOfAllBlocks();
        digestOfNotedFaults();
        digestOfEditsWithoutFinding();
        checks.finish();
    }

    private static void due(String call, long got, long want) {
        checks.due(call, got, want);
    }

    private static void block(ScoreThreads x) {
        x.render(1);
        x.rounds(0, 200);
    }

    /** Number i of CLIP 0 is (i + 1) / 16; TRACK 0 is ON from number 0 on. */
    private static ScoreThreads studio() {
        ScoreThreads x = new ScoreThreads();
        x.clip(3, 64);
        for (int i = 0; i < 64; i++) {
            x.number(0, 3, i, Checks.bits((i + 1) / 16.0));
        }
        x.track(0, 0, 0, false);
        x.on(0, true);
        return x;
    }

    // ---- 1: "No CLIPS, no PLUGS; TRACKS as told; no RUN; two WORKERS."

    private static void newObject() {
        ScoreThreads x = new ScoreThreads();
        int[] facts = {0, NONE, 0, 0, Checks.bits(1), 0, NONE, NONE, NONE, NONE};
        for (int t = 0; t < 8; t++) {
            for (int what = 0; what < facts.length; what++) {
                due("track " + t + " " + what, x.told(t, what), facts[what]);
            }
            due("track " + t + " without a run", x.told(t, 20), 0);
        }
        due("no clip", x.number(0, 0, 0, 0), UNKNOWN);
        due("no plug", x.plugged(0, 0), UNKNOWN);
        due("no run", x.turn(0), STATE);
        due("no fault", x.fault(0, 0), NONE);
        due("no sample", x.out(0), 0);
        for (int what = 0; what <= 10; what++) {
            due("about " + what, x.about(what), what == 2 ? 2 : 0);
        }
        for (int f = 1; f <= 6; f++) {
            due("found " + f, x.found(f), 0);
        }
    }

    private static void newObjectHasTwoWorkers() {
        ScoreThreads x = new ScoreThreads();
        due("worker 0", x.worker(0), NONE);
        due("worker 1", x.worker(1), NONE);
        due("no worker 2", x.worker(2), UNKNOWN);
        due("two there were", x.hire(1), 2);
    }

    // ---- 2: "A CLIP: its number. OUTSIDE: LANE, n is above 64; FULL; SIZE: n is below 0."

    private static void clipsOfEveryLane() {
        ScoreThreads x = new ScoreThreads();
        for (int lane = 0; lane < 5; lane++) {
            due("none of lane " + lane, x.clip(lane, 0), 2 * lane);
            due("64 of lane " + lane, x.clip(lane, 64), 2 * lane + 1);
        }
        due("what is refused takes no number", x.clip(5, 1) + x.clip(0, 65) + x.clip(0, -1), 2 * OUTSIDE - 15);
        due("the next number", x.clip(0, 1), 10);
    }

    private static void clipsInARun() {
        ScoreThreads x = studio();
        x.render(1);
        due("a clip", x.clip(0, 3), 1);
        due("and one of a size that is none", x.clip(0, -1), -15);
    }

    // ---- 3: "Number i of a CLIP becomes what a word tells, as of a LANE (whole ones: its lowest 8, 16, 32 bits;
    // a float by 32, a double by 64): 0."

    private static ScoreThreads numbered(int lane, long word) {
        ScoreThreads x = new ScoreThreads();
        x.clip(lane, 1);
        due("number of lane " + lane + " by " + word, x.number(0, lane, 0, word), 0);
        return x;
    }

    private static void numbersByTheLowestBits() {
        checks.dueFloat("8 bits", numbered(0, 0x7fffffffffffff40L).sample(0, 0), 0.5f);
        checks.dueFloat("8 bits, the highest", numbered(0, 0x80).sample(0, 0), -1.0f);
        checks.dueFloat("no ninth", numbered(0, 0x100).sample(0, 0), 0.0f);
        checks.dueFloat("16 bits", numbered(1, 0x7fffffffffff4000L).sample(0, 0), 0.5f);
        checks.dueFloat("16 bits, the highest", numbered(1, 0x8000).sample(0, 0), -1.0f);
        checks.dueFloat("no seventeenth", numbered(1, 0x10000).sample(0, 0), 0.0f);
        checks.dueFloat("32 bits", numbered(2, 0x7fffffff40000000L).sample(0, 0), 0.5f);
        checks.dueFloat("32 bits, the highest", numbered(2, 0x80000000L).sample(0, 0), -1.0f);
        checks.dueFloat("no 33rd", numbered(2, 0x100000000L).sample(0, 0), 0.0f);
        checks.dueFloat("32 of a float", numbered(3, 0x7fffffff3f000000L).sample(0, 0), 0.5f);
        checks.dueFloat("the sign of a float", numbered(3, 0xbf000000L).sample(0, 0), -0.5f);
        checks.dueFloat("64 of a double", numbered(4, 0x3fe0000000000000L).sample(0, 0), 0.5f);
        checks.dueFloat("the sign of a double", numbered(4, 0xbfe0000000000000L).sample(0, 0), -0.5f);
        checks.dueFloat("the lowest of a double", numbered(4, 0x3ff0000010000001L).sample(0, 0), 1.0000001f);
        checks.dueFloat("without it", numbered(4, 0x3ff0000010000000L).sample(0, 0), 1.0f);
    }

    private static void numbersThatAreEndless() {
        // the next word behind each tells no number (NaN), as of its own LANE
        checks.dueFloat("endless", numbered(3, 0x7f800000L).sample(0, 0), 8.0f);
        checks.dueFloat("-endless", numbered(3, 0xff800000L).sample(0, 0), -8.0f);
        checks.dueFloat("endless double", numbered(4, 0x7ff0000000000000L).sample(0, 0), 8.0f);
        checks.dueFloat("-endless double", numbered(4, 0xfff0000000000000L).sample(0, 0), -8.0f);
        ScoreThreads x = numbered(3, 0x3f800000L);
        due("behind endless", x.number(0, 3, 0, 0x7f800001L), OUTSIDE);
        due("behind -endless", x.number(0, 3, 0, 0xff800001L), OUTSIDE);
        checks.dueFloat("it stays", x.sample(0, 0), 1.0f);
        ScoreThreads y = numbered(4, 0x3ff0000000000000L);
        due("behind endless double", y.number(0, 4, 0, 0x7ff0000000000001L), OUTSIDE);
        due("behind -endless double", y.number(0, 4, 0, 0xfff0000000000001L), OUTSIDE);
        checks.dueFloat("it stays, too", y.sample(0, 0), 1.0f);
        checks.dueFloat("NaN of a double is none of a float", numbered(3, 0x7ff8000000000000L).sample(0, 0), 0.0f);
        checks.dueFloat("NaN of a float is none of an int", numbered(2, 0x7fc00000L).sample(0, 0),
                (float) (0x7fc00000 / 2147483648.0));
        checks.dueFloat("nor of a double", numbered(4, 0x7fc00000L).sample(0, 0), 0.0f);
        checks.dueFloat("all bits of a byte", numbered(0, -1L).sample(0, 0), -0.0078125f);
    }

    private static void numbersFromFirstToLast() {
        ScoreThreads x = new ScoreThreads();
        x.clip(0, 64);
        due("the first", x.number(0, 0, 0, 64), 0);
        due("the last", x.number(0, 0, 63, -64), 0);
        checks.dueFloat("its sample", x.sample(0, 0), 0.5f);
        checks.dueFloat("the last one's", x.sample(0, 63), -0.5f);
        due("between them", x.sample(0, 1) | x.sample(0, 62), 0);
        due("behind the last", x.number(0, 0, 64, 1), INDEX);
        due("ahead of the first", x.number(0, 0, -1, 1), INDEX);
    }

    private static void numbersAreOfOneClip() {
        ScoreThreads x = new ScoreThreads();
        x.clip(0, 1);
        x.clip(0, 1);
        x.number(1, 0, 0, 64);
        due("not of the other", x.sample(0, 0), 0);
        checks.dueFloat("of the last", x.sample(1, 0), 0.5f);
        due("behind the last", x.number(2, 0, 0, 64), UNKNOWN);
    }

    // ---- 4: "The SAMPLE of number i of a CLIP, by its bits; 0 also: there is no such CLIP, number."

    private static void samplesFromFirstToLast() {
        ScoreThreads x = studio();
        checks.dueFloat("first", x.sample(0, 0), 1 / 16.0f);
        checks.dueFloat("last", x.sample(0, 63), 4.0f);
        int[] none = {MIN, -1, 64, MAX};
        for (int i : none) {
            due("no number " + i, x.sample(0, i), 0);
        }
        int[] unknown = {MIN, -1, 1, MAX};
        for (int c : unknown) {
            due("no clip " + c, x.sample(c, 0), 0);
        }
        x.clip(3, 0);
        due("a clip of none", x.sample(1, 0), 0);
        x.render(1);
        checks.dueFloat("in a run, too", x.sample(0, 63), 4.0f);
    }

    // ---- 5: "A PLUG of a KIND: its number; a by its bits. OUTSIDE: KIND, a is not -8.0 .. 8.0; n of STEPS -64 .. 64,
    // of ECHO, BELL above 16, of TABLE no CLIP; FULL; SIZE: n of ECHO, BELL below 0."

    private static void plugsOfEveryKind() {
        ScoreThreads x = new ScoreThreads();
        x.clip(0, 0);
        due("kind -1", x.plug(-1, 0, 0), OUTSIDE);
        for (int kind = 0; kind < 8; kind++) {
            due("kind " + kind, x.plug(kind, 0, 0), kind);
            due("is it " + kind, x.plugged(kind, 0), kind);
        }
        due("kind 8", x.plug(8, 0, 0), OUTSIDE);
    }

    private static void plugsWithAtItsEdges() {
        int[] taken = {0x41000000, 0xc1000000, 0, 0x80000000, 1, 0x80000001, 0x40ffffff, 0xc0ffffff};
        int[] refused = {0x41000001, 0xc1000001, 0x7f800000, 0xff800000, 0x7f800001, 0x7fffffff, -1};
        for (int kind = 0; kind < 8; kind++) {
            ScoreThreads x = new ScoreThreads();
            x.clip(0, 1);
            for (int i = 0; i < taken.length; i++) {
                due("kind " + kind + " with " + taken[i], x.plug(kind, taken[i], 0), i);
            }
            for (int a : refused) {
                due("kind " + kind + " with " + a, x.plug(kind, a, 0), OUTSIDE);
            }
        }
    }

    private static void plugsWithNAtItsEdges() {
        ScoreThreads x = new ScoreThreads();
        x.clip(0, 1);
        x.clip(0, 1);
        due("STEPS -65", x.plug(3, 0, -65), OUTSIDE);
        due("STEPS -64", x.plug(3, 0, -64), 0);
        due("STEPS 64", x.plug(3, 0, 64), 1);
        due("STEPS 65", x.plug(3, 0, 65), OUTSIDE);
        for (int kind = 4; kind <= 5; kind++) {
            due("-1", x.plug(kind, 0, -1), -15);
            due("0", x.plug(kind, 0, 0), 2 * kind - 6);
            due("16", x.plug(kind, 0, 16), 2 * kind - 5);
            due("17", x.plug(kind, 0, 17), OUTSIDE);
        }
        due("TABLE -1", x.plug(7, 0, -1), OUTSIDE);
        due("TABLE 0", x.plug(7, 0, 0), 6);
        due("TABLE 1", x.plug(7, 0, 1), 7);
        due("TABLE 2", x.plug(7, 0, 2), OUTSIDE);
        due("GAIN of any n", x.plug(0, 0, MIN), 8);
        due("WARM of any n", x.plug(1, 0, MAX), 9);
        due("FOLD of any n", x.plug(2, 0, 65), 10);
        due("GATE of any n", x.plug(6, 0, -1), 11);
    }

    private static void plugsInARun() {
        ScoreThreads x = studio();
        x.render(1);
        due("a plug", x.plug(7, 0, 0), 0);
        due("an edit with it is queued", x.chain(0, 0, 0), 0);
    }

    // ---- 6: "3 AT of an ECHO, 4 how many SAMPLES its LINE has (CAST: it is no ECHO; NULL: there is no LINE, of 4),
    // 5 + i the bits of SAMPLE i of its LINE (CAST; NULL; INDEX)."

    private static void pluggedLines() {
        for (int kind = 4; kind <= 5; kind++) {
            ScoreThreads x = new ScoreThreads();
            x.plug(kind, 0, 0);
            due("at of none", x.plugged(0, 3), 0);
            due("a line of none", x.plugged(0, 4), 0);
            due("its first", x.plugged(0, 5), INDEX);
            x.line(0, 1);
            due("a line of one", x.plugged(0, 4), 1);
            due("its only one", x.plugged(0, 5), 0);
            due("behind it", x.plugged(0, 6), INDEX);
            x.line(0, NONE);
            due("at without a line", x.plugged(0, 3), 0);
            due("no line", x.plugged(0, 4), NULL);
            due("nothing of it", x.plugged(0, 5), NULL);
            due("nothing of it at its end", x.plugged(0, 20), NULL);
        }
        ScoreThreads x = new ScoreThreads();
        x.plug(6, 0, 16);
        due("kind", x.plugged(0, 0), 6);
        due("how often", x.plugged(0, 2), 0);
        due("at of no echo", x.plugged(0, 3), CAST);
        due("line of no echo", x.plugged(0, 4), CAST);
        due("sample of no echo", x.plugged(0, 20), CAST);
    }

    private static void pluggedFullLine() {
        ScoreThreads x = studio();
        x.plug(4, 0, 16);
        x.chain(0, 0, 0);
        block(x);
        block(x);
        checks.dueFloat("the first of 16", x.plugged(0, 5), 1 / 16.0f);
        checks.dueFloat("the last of 16", x.plugged(0, 20), 1.0f);
        due("behind it", x.plugged(0, 21), OUTSIDE);
        x.plug(4, 0, 15);
        due("the last of 15", x.plugged(1, 19), 0);
        due("behind the last of 15", x.plugged(1, 20), INDEX);
    }

    private static void pluggedUses() {
        ScoreThreads x = studio();
        x.plug(0, Checks.bits(1), 0);
        for (int j = 0; j < 4; j++) {
            x.chain(0, j, 0);
        }
        block(x);
        due("four times in a block", x.plugged(0, 2), 4);
        x.on(0, false);
        block(x);
        due("not by one that is not on", x.plugged(0, 2), 4);
    }

    // ---- 7: "A TRACK gets a CLIP (NONE: none), a START, is STRICT or not. UNKNOWN: TRACK, CLIP; FULL."

    private static void tracksWithAndWithoutClip() {
        ScoreThreads x = new ScoreThreads();
        due("no clip there", x.track(0, 0, 0, false), UNKNOWN);
        due("none", x.track(0, NONE, 0, false), 1);
        x.clip(0, 0);
        x.clip(0, 1);
        due("clip of none", x.track(7, 0, 0, true), 1);
        due("is", x.told(7, 1), 0);
        due("the last clip", x.track(7, 1, 0, true), 1);
        due("is the last", x.told(7, 1), 1);
        due("behind it", x.track(7, 2, 0, true), UNKNOWN);
        due("ahead of none", x.track(7, -2, 0, true), UNKNOWN);
        due("none again", x.track(7, NONE, 0, false), 1);
        due("is none", x.told(7, 1), NONE);
        due("is not strict", x.told(7, 3), 0);
    }

    private static void tracksWithAnyStart() {
        ScoreThreads x = new ScoreThreads();
        int[] starts = {MIN, -1, 0, 1, MAX};
        for (int start : starts) {
            due("start", x.track(0, NONE, start, true), 1);
            due("is " + start, x.told(0, 2), start);
        }
    }

    // ---- 8: "A TRACK gets a new CHAIN without PLUGS, PURE or not."

    private static void pureMakesANewChain() {
        boolean[] kinds = {false, true};
        for (boolean was : kinds) {
            for (boolean is : kinds) {
                ScoreThreads x = new ScoreThreads();
                x.plug(0, 0, 0);
                x.pure(0, was);
                for (int j = 0; j < 4; j++) {
                    x.chain(0, j, 0);
                    x.chain(1, j, 0);
                }
                due("a new chain", x.pure(0, is), 1);
                due("pure", x.told(0, 5), is ? 1 : 0);
                for (int j = 0; j < 4; j++) {
                    due("nothing at " + j, x.told(0, 6 + j), NONE);
                    due("another's stays at " + j, x.told(1, 6 + j), 0);
                }
            }
        }
    }

    // ---- 9: "Place j of a TRACK's CHAIN gets a PLUG (NONE: nothing)."

    private static void chainsTakeAndGiveBack() {
        ScoreThreads x = new ScoreThreads();
        due("nothing, without any plug", x.chain(0, 0, NONE), 1);
        due("no plug there", x.chain(0, 0, 0), UNKNOWN);
        x.plug(0, 0, 0);
        x.plug(4, 0, 0);
        due("the last plug", x.chain(0, 3, 1), 1);
        due("is there", x.told(0, 9), 1);
        due("behind it", x.chain(0, 3, 2), UNKNOWN);
        due("ahead of none", x.chain(0, 3, -2), UNKNOWN);
        due("is there still", x.told(0, 9), 1);
        due("another", x.chain(0, 3, 0), 1);
        due("is there now", x.told(0, 9), 0);
        due("nothing", x.chain(0, 3, NONE), 1);
        due("is nothing", x.told(0, 9), NONE);
        due("nothing at an empty place", x.chain(0, 3, NONE), 1);
    }

    // ---- 10: "OUTSIDE: it is not 0.0 .. 8.0"

    private static void levelsAtTheirEdges() {
        ScoreThreads x = new ScoreThreads();
        int[] taken = {0, 0x80000000, 1, 0x40ffffff, 0x41000000};
        for (int bits : taken) {
            due("level by " + bits, x.level(0, bits), 1);
            due("is it by " + bits, x.told(0, 4), bits);
        }
        int[] refused = {0x80000001, 0xc1000000, 0x41000001, 0x7f800000, 0xff800000, 0x7f800001, -1};
        for (int bits : refused) {
            due("level by " + bits, x.level(0, bits), OUTSIDE);
            due("is it still", x.told(0, 4), 0x41000000);
        }
    }

    // ---- 11: "A TRACK is ON, or not."

    private static void onTwice() {
        ScoreThreads x = new ScoreThreads();
        due("not on", x.on(0, false), 1);
        due("on", x.on(0, true), 1);
        due("on twice", x.on(0, true), 1);
        due("is on", x.told(0, 0), 1);
        due("four were done", x.on(0, false) + x.about(6), 5);
    }

    // ---- 12: "a new one of n SAMPLES 0.0, AT 0; n is NONE: there is none. UNKNOWN; OUTSIDE: n is above 16; .. SIZE: n
    // is below -1."

    private static void linesAtTheirEdges() {
        ScoreThreads x = new ScoreThreads();
        x.plug(4, 0, 5);
        due("-2", x.line(0, -2), -15);
        due("is 5 still", x.plugged(0, 4), 5);
        due("none", x.line(0, -1), 1);
        due("is none", x.plugged(0, 4), NULL);
        due("none twice", x.line(0, -1), 1);
        due("0", x.line(0, 0), 1);
        due("is 0", x.plugged(0, 4), 0);
        due("16", x.line(0, 16), 1);
        due("is 16", x.plugged(0, 4), 16);
        due("17", x.line(0, 17), OUTSIDE);
        due("is 16 still", x.plugged(0, 4), 16);
    }

    private static void linesAreNew() {
        ScoreThreads x = studio();
        x.plug(4, Checks.bits(1), 5);
        x.chain(0, 0, 0);
        block(x);
        due("at", x.plugged(0, 3), 3);
        x.line(0, 5);
        due("at of as long a one", x.plugged(0, 3), 0);
        for (int i = 0; i < 5; i++) {
            due("0.0 at " + i, x.plugged(0, 5 + i), 0);
        }
        block(x);
        x.line(0, NONE);
        x.line(0, 16);
        due("at of a longer one", x.plugged(0, 3), 0);
        for (int i = 0; i < 16; i++) {
            due("0.0 at " + i + " of it", x.plugged(0, 5 + i), 0);
        }
        due("how often stays", x.plugged(0, 2), 2);
    }

    // ---- 13: "From now on there are n WORKERS (1 .. 4): how many there were."

    private static void hiresFromOneToFour() {
        ScoreThreads x = new ScoreThreads();
        int before = 2;
        for (int n = 1; n <= 4; n++) {
            due("hire " + n, x.hire(n), before);
            due("the last of " + n, x.worker(n - 1), NONE);
            due("behind the last of " + n, x.worker(n), UNKNOWN);
            x.render(1);
            due("no turn behind the last of " + n, x.turn(n), UNKNOWN);
            due("a turn of the last of " + n, x.turn(n - 1), 4);
            before = n;
        }
        due("0", x.hire(0), OUTSIDE);
        due("5", x.hire(5), OUTSIDE);
        due("as many again", x.hire(4), 4);
    }

    // ---- 14: "A RUN of n BLOCKS (1 .. 8) begins: the number of its first one. .. FULL: there would be more than 64."

    private static void rendersFromOneToEight() {
        ScoreThreads x = new ScoreThreads();
        int first = 0;
        for (int n = 1; n <= 8; n++) {
            due("render " + n, x.render(n), first);
            due("to its end", x.rounds(0, 200), n);
            first += n;
        }
        due("render 0", x.render(0), OUTSIDE);
        due("render 9", x.render(9), OUTSIDE);
    }

    private static void rendersUpToSixtyFour() {
        ScoreThreads x = new ScoreThreads();
        for (int r = 0; r < 7; r++) {
            x.render(8);
            x.rounds(0, 200);
        }
        due("1 more", x.render(1), 56);
        x.turn(0);
        due("8 more", x.render(8), FULL);
        due("no run began", x.about(7), 0);
        due("7 more", x.render(7), 57);
        due("state ahead of full", x.render(1), STATE);
        x.rounds(0, 200);
        due("not one more", x.render(1), FULL);
        due("64", x.about(3), 64);
    }

    private static void stoppedBlocksAreFree() {
        ScoreThreads x = new ScoreThreads();
        for (int r = 0; r < 7; r++) {
            x.render(8);
            x.rounds(0, 200);
        }
        x.render(8);
        x.stop();
        due("stopped behind the first", x.turn(0), 4);
        due("seven are left", x.render(8), FULL);
        due("seven", x.render(7), 57);
    }

    // ---- 15: "0 it waits, 1 a STEP was done, 2 it failed, 3 it MIXED, 4 and the RUN ENDED."

    private static void turnsOfEveryKind() {
        ScoreThreads x = studio();
        x.on(1, true);
        x.plug(0, 0, 0);
        x.chain(0, 0, 0);
        x.render(2);
        due("a step", x.turn(0), 1);
        due("it failed", x.turn(1), 2);
        due("it waits", x.turn(1), 0);
        due("a plug", x.turn(0), 1);
        due("it failed again", x.turn(1), 2);
        due("it mixed", x.turn(1), 3);
        x.stop();
        due("three more", x.rounds(0, 3), 3);
        due("both are through", x.told(0, 20) * 10 + x.told(1, 20), 34);
        due("it failed once more", x.turn(0), 2);
        due("it mixed, and the run ended", x.turn(0), 4);
        due("no run", x.turn(0), STATE);
    }

    // ---- 16: "Turns of WORKERS 0, 1, .. by rounds, beginning with one, up to n (0 .. 200) or to the RUN's END: how many."

    private static void roundsOfNoTurns() {
        ScoreThreads x = studio();
        x.render(1);
        due("no turns", x.rounds(1, 0), 0);
        due("no step", x.about(9), 0);
        due("no wait", x.about(10), 0);
        due("open still", x.told(0, 20), 1);
    }

    /** Eight TRACKS with four PLUGS each: 41 STEPS of one WORKER in a BLOCK. */
    private static ScoreThreads busy() {
        ScoreThreads x = new ScoreThreads();
        x.clip(0, 0);
        x.plug(0, 0, 0);
        for (int t = 0; t < 8; t++) {
            x.track(t, 0, 0, false);
            x.on(t, true);
            for (int j = 0; j < 4; j++) {
                x.chain(t, j, 0);
            }
        }
        x.hire(1);
        x.render(8);
        return x;
    }

    private static void roundsOfTwoHundred() {
        ScoreThreads x = busy();
        due("-1", x.rounds(0, -1), OUTSIDE);
        due("201", x.rounds(0, 201), OUTSIDE);
        due("none was taken", x.about(9), 0);
        due("200", x.rounds(0, 200), 200);
        due("200 steps", x.about(9), 200);
        due("4 blocks", x.about(3), 4);
        due("to the end", x.rounds(0, 200), 8 * 41 - 200);
        due("8 blocks", x.about(3), 8);
    }

    private static void roundsGoRound() {
        for (int workers = 1; workers <= 4; workers++) {
            for (int w = 0; w < workers; w++) {
                ScoreThreads x = busy();
                x.rounds(0, 200);
                x.rounds(0, 200);
                x.hire(workers);
                x.render(1);
                due("one turn each", x.rounds(w, workers), workers);
                for (int i = 0; i < workers; i++) {
                    due("turn " + i + " of " + workers + " from " + w, x.worker((w + i) % workers), i);
                }
            }
        }
    }

    private static void roundsToTheEnd() {
        ScoreThreads x = studio();
        x.render(2);
        due("one less than to the end", x.rounds(0, 3), 3);
        due("under way", x.about(7), 1);
        due("the last one", x.rounds(0, 200), 1);
        due("ended", x.about(7), 0);
        due("no more", x.rounds(0, 200), STATE);
        x.render(2);
        due("all of them at once", x.rounds(1, 4), 4);
        due("ended, too", x.about(7), 0);
    }

    // ---- 17: "The RUN is to STOP behind the BLOCK under way: 1; 0: it was told so already."

    private static void stopsOnce() {
        ScoreThreads x = studio();
        x.render(3);
        due("told", x.stop(), 1);
        due("already", x.stop(), 0);
        due("already, twice", x.stop(), 0);
        due("to the block's end", x.rounds(0, 200), 2);
        due("no run", x.stop(), STATE);
        x.render(3);
        due("told anew", x.stop(), 1);
        due("to its block's end", x.rounds(0, 200), 2);
        due("two blocks", x.about(3), 2);
    }

    // ---- 18: "SAMPLE i of OUT, by its bits; 0 also: there is none."

    private static void outFromFirstToLast() {
        ScoreThreads x = studio();
        x.track(0, 0, 0, false);
        due("none yet", x.out(0), 0);
        x.render(2);
        x.rounds(0, 2);
        checks.dueFloat("the first", x.out(0), 1 / 16.0f);
        checks.dueFloat("the last of a block", x.out(7), 0.5f);
        due("of the next one there is none", x.out(8), 0);
        x.turn(0);
        due("nor when it is loaded", x.out(8), 0);
        x.turn(0);
        checks.dueFloat("it is mixed", x.out(8), 9 / 16.0f);
        int[] none = {MIN, -1, 16, 511, 512, MAX};
        for (int i : none) {
            due("none " + i, x.out(i), 0);
        }
        ScoreThreads y = studio();
        y.track(0, 0, -8 * 63, false);
        for (int r = 0; r < 8; r++) {
            y.render(8);
            y.rounds(0, 200);
        }
        due("the last but 8", y.out(503), 0);
        checks.dueFloat("first of the last block", y.out(504), 1 / 16.0f);
        checks.dueFloat("the last of all", y.out(511), 0.5f);
        due("behind it", y.out(512), 0);
    }

    // ---- 19: "6 + j the PLUG at place j (NONE; INDEX: j is 4 or more), 20 in this BLOCK: 0 nothing, 1 OPEN, 2 a WORKER
    // has it, 3 DONE, 4 FAILED, 5 SILENT (0 without a RUN)."

    private static void toldFromFirstToLast() {
        ScoreThreads x = studio();
        x.plug(0, 0, 0);
        x.chain(0, 3, 0);
        due("-1", x.told(0, -1), OUTSIDE);
        due("0", x.told(0, 0), 1);
        due("5", x.told(0, 5), 0);
        due("place 0", x.told(0, 6), NONE);
        due("place 3", x.told(0, 9), 0);
        due("place 4", x.told(0, 10), INDEX);
        due("place 13", x.told(0, 19), INDEX);
        due("20", x.told(0, 20), 0);
        due("21", x.told(0, 21), OUTSIDE);
        due("index twice", x.found(2), 2);
    }

    private static void toldInABlock() {
        ScoreThreads x = studio();
        x.plug(0, 0, 0);
        x.chain(0, 0, 0);
        x.on(1, true);
        due("ahead of a run", x.told(0, 20), 0);
        x.render(2);
        due("open", x.told(0, 20), 1);
        due("nothing", x.told(2, 20), 0);
        x.turn(0);
        due("a worker has it", x.told(0, 20), 2);
        x.turn(1);
        due("failed", x.told(1, 20), 4);
        x.turn(0);
        due("done", x.told(0, 20), 3);
        x.turn(0);
        due("silent", x.told(1, 20), 5);
        x.turn(0);
        due("open in the next one", x.told(0, 20), 1);
        due("this, too", x.told(1, 20), 1);
        x.rounds(0, 200);
        due("without a run", x.told(0, 20), 0);
        due("without a run, what was silent", x.told(1, 20), 0);
    }

    // ---- 20: "The TRACK that a WORKER has; NONE. UNKNOWN."

    private static void workersAndTheirTracks() {
        ScoreThreads x = studio();
        x.plug(0, 0, 0);
        x.chain(0, 0, 0);
        x.hire(3);
        due("none without a run", x.worker(2), NONE);
        x.render(1);
        due("none ahead of a turn", x.worker(2), NONE);
        x.turn(2);
        due("track 0", x.worker(2), 0);
        due("another has none", x.worker(0), NONE);
        x.turn(2);
        due("none behind it", x.worker(2), NONE);
        due("-1", x.worker(-1), UNKNOWN);
        due("3", x.worker(3), UNKNOWN);
        x.turn(0);
        due("none behind the run", x.worker(2), NONE);
    }

    // ---- 21: "OUTSIDE: what; NONE: there is no such FAULT."

    private static void faultsFromFirstToLast() {
        ScoreThreads x = studio();
        x.plug(3, 0, 0);
        x.chain(0, 3, 0);
        due("none yet", x.fault(0, 0), NONE);
        due("outside, though there is none", x.fault(0, 5), OUTSIDE);
        x.render(1);
        x.rounds(0, 4);
        due("none is noted ahead of mixing", x.fault(0, 0), NONE);
        due("none is counted ahead of mixing", x.about(4), 0);
        x.rounds(0, 200);
        int[][] wanted = {{0, 0, 3, 6, 1}, {0, 0, 3, 6, 2}};
        for (int i = 0; i < 2; i++) {
            due("what -1", x.fault(i, -1), OUTSIDE);
            for (int what = 0; what < 5; what++) {
                due("fault " + i + " " + what, x.fault(i, what), wanted[i][what]);
            }
            due("what 5", x.fault(i, 5), OUTSIDE);
        }
        due("behind the last", x.fault(2, 0), NONE);
        due("ahead of the first", x.fault(-1, 0), NONE);
        due("what fails in a turn is not found", x.found(6), 0);
    }

    // ---- 22: "How often a FINDING (1 .. 6) was answered, or met by a queued EDIT (what fails in a turn is not counted
    // here). OUTSIDE."

    private static void foundByFinding() {
        ScoreThreads x = new ScoreThreads();
        x.plug(4, 0, 0);
        x.plug(3, 0, 0);
        x.line(0, NONE);
        x.pure(0, true);
        due("NULL", x.plugged(0, 4), -11);
        due("INDEX", x.told(0, 10), -12);
        due("CAST", x.plugged(1, 3), -13);
        due("STORE", x.chain(0, 0, 0), -14);
        due("SIZE", x.clip(0, -1), -15);
        x.on(1, true);
        block(x);
        due("0", x.found(0), OUTSIDE);
        for (int f = 1; f <= 5; f++) {
            due("once " + f, x.found(f), 1);
        }
        due("ZERO is never answered", x.found(6), 0);
        due("7", x.found(7), OUTSIDE);
        due("a fault there was", x.fault(0, 3), 1);
        due("and answering it is no finding", x.found(1), 1);
    }

    private static void foundWhenItIsDone() {
        ScoreThreads x = new ScoreThreads();
        x.plug(3, 0, 0);
        x.render(2);
        due("queued", x.chain(0, 4, 0), 0);
        due("queued, too", x.line(0, -2), 0);
        due("not yet", x.found(2) + x.found(3) + x.found(5), 0);
        due("mixed", x.turn(0), 3);
        due("index", x.found(2), 1);
        due("cast, ahead of size", x.found(3), 1);
        due("no size", x.found(5), 0);
        due("mixed again", x.turn(0), 4);
        due("it was met once", x.found(2), 1);
    }

    // ---- 23: "How many: 0 CLIPS, .. 10 turns that waited ever. OUTSIDE."

    private static void aboutFromFirstToLast() {
        ScoreThreads x = studio();
        x.plug(0, 0, 0);
        x.chain(0, 4, 0);
        x.render(1);
        x.turn(0);
        x.on(1, true);
        int[] wanted = {1, 1, 2, 0, 0, 1, 2, 1, 1, 1, 0};
        due("-1", x.about(-1), OUTSIDE);
        for (int what = 0; what < wanted.length; what++) {
            due("about " + what, x.about(what), wanted[what]);
        }
        due("11", x.about(11), OUTSIDE);
    }

    private static void aboutBlocksThatAreLeft() {
        ScoreThreads x = new ScoreThreads();
        due("none without a run", x.about(8), 0);
        x.render(8);
        for (int left = 8; left > 0; left--) {
            due("left", x.about(8), left);
            due("under way", x.about(7), 1);
            x.turn(0);
        }
        due("none behind it", x.about(8), 0);
        due("no run", x.about(7), 0);
        x.render(3);
        x.stop();
        x.turn(0);
        due("none when it was stopped", x.about(8), 0);
    }

    private static void aboutStepsAndWaits() {
        ScoreThreads x = studio();
        x.plug(0, 0, 0);
        x.chain(0, 0, 0);
        x.render(1);
        x.turn(0);
        x.turn(1);
        x.turn(1);
        x.turn(0);
        x.turn(1);
        due("load, plug, mix", x.about(9), 3);
        due("two waited", x.about(10), 2);
        x.turn(0);
        due("a refused turn is none", x.about(9) + x.about(10), 5);
    }

    // ---- 24: "h is 17, then for each of these numbers, in order, 31 times h, and it (as longs, wrapping)"

    private static long added(long before, long... numbers) {
        long h = before;
        for (long number : numbers) {
            h = 31 * h + number;
        }
        return h;
    }

    private static long addedTracks(long before, ScoreThreads x) {
        long h = before;
        for (int t = 0; t < 8; t++) {
            for (int what = 0; what < 10; what++) {
                h = added(h, x.told(t, what));
            }
        }
        return h;
    }

    private static void digestOfNothing() {
        ScoreThreads x = new ScoreThreads();
        due("a new object", x.digest(), added(addedTracks(17, x), 0));
        x.clip(0, 3);
        x.number(0, 0, 0, 1);
        due("clips are not in it", x.digest(), added(addedTracks(17, x), 0));
        x.plug(0, 0, 0);
        due("a plug is", x.digest(), added(addedTracks(added(17, 0), x), 0));
    }

    // "of ECHOES AT, how many SAMPLES of the LINE (-1: none), these by their bits"

    private static void digestOfLines() {
        ScoreThreads x = studio();
        x.plug(4, Checks.bits(-1), 3);
        x.plug(5, 0, 0);
        x.plug(4, 0, 16);
        x.plug(6, 0, 0);
        x.line(2, NONE);
        x.chain(0, 0, 0);
        block(x);
        long h = 17;
        for (int i = 0; i < 8; i++) {
            h = added(h, x.out(i));
        }
        h = added(h, 1, 2, 3, x.plugged(0, 5), x.plugged(0, 6), x.plugged(0, 7));
        h = added(h, 0, 0, 0);
        h = added(h, 0, 0, -1);
        h = added(h, 0);
        due("lines of three, of none, and no line", x.digest(), added(addedTracks(h, x), 4));
        x.line(2, 16);
        h = 17;
        for (int i = 0; i < 8; i++) {
            h = added(h, x.out(i));
        }
        h = added(h, 1, 2, 3, x.plugged(0, 5), x.plugged(0, 6), x.plugged(0, 7), 0, 0, 0);
        h = added(h, 0, 0, 16, 0, 0, 0, 0, 0, 0, 0, 0, 0, 0, 0, 0, 0, 0, 0, 0, 0);
        due("a full line", x.digest(), added(addedTracks(h, x), 5));
    }

    private static void digestOfAllBlocks() {
        ScoreThreads x = new ScoreThreads();
        x.clip(3, 64);
        for (int i = 0; i < 64; i++) {
            x.number(0, 3, i, Checks.bits(-0.5));
        }
        x.track(0, 0, -64 * 7, false);
        x.on(0, true);
        for (int r = 0; r < 8; r++) {
            x.render(8);
            x.rounds(0, 200);
        }
        long h = 17;
        for (int i = 0; i < 512; i++) {
            // negative bits: as longs they are negative, too
            h = added(h, i < 448 ? 0 : Checks.bits(-0.5));
        }
        due("64 blocks", x.digest(), added(addedTracks(h, x), 2));
    }

    // "FAULTS that are noted: each by fault() for 0 to 4; EDITS done."

    private static void digestOfNotedFaults() {
        ScoreThreads x = new ScoreThreads();
        for (int t = 0; t < 8; t++) {
            x.on(t, true);
        }
        long h = 17;
        for (int k = 0; k < 7; k++) {
            block(x);
            long all = h;
            for (int i = 0; i < 8 * (k + 1); i++) {
                all = added(all, 0);
            }
            all = addedTracks(all, new8On());
            int noted = Math.min(16 * (k + 1), 100);
            for (int i = 0; i < noted; i++) {
                all = added(all, i / 2 % 8, i / 16, -1, 1, i % 2 + 1);
            }
            due("faults of " + (k + 1) + " blocks", x.digest(), added(all, 8));
        }
        due("all are counted", x.about(4), 112);
    }

    private static ScoreThreads new8On() {
        ScoreThreads x = new ScoreThreads();
        for (int t = 0; t < 8; t++) {
            x.on(t, true);
        }
        return x;
    }

    private static void digestOfEditsWithoutFinding() {
        ScoreThreads x = new ScoreThreads();
        x.plug(0, 0, 0);
        x.chain(0, 4, 0);
        x.line(0, 1);
        due("edits with a finding are not done", x.digest(), added(addedTracks(added(17, 0), x), 0));
        x.render(1);
        x.on(0, true);
        due("nor is what is queued", x.digest(), added(addedTracks(added(17, 0), x), 0));
        x.chain(0, 4, 0);
        x.turn(0);
        long h = added(17, 0, 0, 0, 0, 0, 0, 0, 0, 0);
        due("one was done", x.digest(), added(addedTracks(h, x), 1));
    }
}
