import java.util.function.Consumer;
import java.util.function.ToLongFunction;

/**
 * Part 3: "Refusals, ahead of them: UNKNOWN .., OUTSIDE .., STATE, FULL; of several the first as a call tells them. What is
 * refused or has a FINDING changes nothing but found()." For each promise all its refusals and FINDINGS, alone and with a
 * second reason that must not be answered; behind each the object is compared with a twin that was not called.
 */
public final class RefusalsTest {
    private static final int UNKNOWN = ScoreThreads.UNKNOWN, OUTSIDE = ScoreThreads.OUTSIDE;
    private static final int STATE = ScoreThreads.STATE, FULL = ScoreThreads.FULL, NONE = ScoreThreads.NONE;
    private static final int NULL = -11, INDEX = -12, CAST = -13, STORE = -14, SIZE = -15;
    private static final int MIN = Integer.MIN_VALUE, MAX = Integer.MAX_VALUE;
    private static final int ABOVE_8 = 0x41000001, BELOW_MINUS_8 = 0xc1000001, NAN = 0x7fc00000, LEAST_NAN = 0x7f800001;
    private static final int ENDLESS = 0x7f800000, MINUS_ENDLESS = 0xff800000;
    private static final long DOUBLE_NAN = 0x7ff0000000000001L;
    private static final int[] NO_TRACKS = {MIN, -2, -1, 8, 9, MAX};
    private static final Checks checks = new Checks();
    private static final Twins twins = new Twins(checks);

    // two CLIPS (8 floats, 4 bytes), a PLUG of each KIND, TRACKS 0 and 2 ON, 1 PURE, one BLOCK rendered, two FAULTS
    private static final Consumer<ScoreThreads> REST = RefusalsTest::rest;
    private static final Consumer<ScoreThreads> RUN = RefusalsTest::run;
    private static final Consumer<ScoreThreads> FULL_QUEUE = RefusalsTest::fullQueue;
    private static final Consumer<ScoreThreads> FULL_CLIPS = RefusalsTest::fullClips;
    private static final Consumer<ScoreThreads> FULL_PLUGS = RefusalsTest::fullPlugs;
    private static final Consumer<ScoreThreads> FULL_BLOCKS = x -> blocks(x, 64);
    private static final Consumer<ScoreThreads> NEARLY_FULL_BLOCKS = x -> blocks(x, 61);

    public static void main(String[] args) {
        clip();
        number();
        sample();
        plug();
        plugged();
        track();
        pure();
        chain();
        level();
        on();
        line();
        hire();
        render();
        turn();
        rounds();
        stop();
        out();
        told();
        worker();
        fault();
        found();
        about();
        checks.finish();
    }

    private static void rest(ScoreThreads x) {
        x.clip(3, 8);
        x.clip(0, 4);
        x.number(0, 3, 0, Checks.bits(1));
        x.number(0, 3, 3, Checks.bits(-0.5));
        x.number(1, 0, 0, 64);
        for (int kind = 0; kind < 8; kind++) {
            x.plug(kind, Checks.bits(0.5), kind == 7 ? 0 : 3);
        }
        x.line(5, NONE);
        x.track(0, 0, 0, false);
        x.chain(0, 0, 4);
        x.chain(0, 1, 0);
        x.on(0, true);
        x.pure(1, true);
        x.chain(1, 0, 1);
        x.on(2, true);
        x.render(1);
        x.rounds(0, 200);
        x.track(0, 0, -8, true);
    }

    /** WORKER 0 has TRACK 0; TRACK 2 is FAILED; an EDIT is queued. */
    private static void run(ScoreThreads x) {
        rest(x);
        x.render(3);
        x.turn(0);
        x.turn(1);
        x.on(3, true);
    }

    private static void fullQueue(ScoreThreads x) {
        rest(x);
        x.render(2);
        x.turn(0);
        for (int e = 0; e < 30; e++) {
            x.level(3 + e % 5, Checks.bits(e / 4.0));
        }
    }

    private static void fullClips(ScoreThreads x) {
        rest(x);
        for (int c = 2; c < 16; c++) {
            x.clip(c % 5, c);
        }
    }

    private static void fullPlugs(ScoreThreads x) {
        rest(x);
        for (int p = 8; p < 12; p++) {
            x.plug(0, 0, p);
        }
    }

    private static void blocks(ScoreThreads x, int count) {
        x.on(0, true);
        for (int left = count; left > 0; left -= 8) {
            x.render(Math.min(left, 8));
            x.rounds(0, 200);
        }
    }

    private static void refused(String name, Consumer<ScoreThreads> prepare, long want, ToLongFunction<ScoreThreads> call) {
        twins.refused(name, prepare, call, want);
    }

    // "OUTSIDE: LANE, n is above 64; FULL; SIZE: n is below 0."

    private static void clip() {
        for (int lane : new int[] {MIN, -1, 5, MAX}) {
            refused("clip: lane " + lane, REST, OUTSIDE, x -> x.clip(lane, 1));
            refused("clip: lane " + lane + " ahead of full", FULL_CLIPS, OUTSIDE, x -> x.clip(lane, 1));
            refused("clip: lane " + lane + " ahead of size", REST, OUTSIDE, x -> x.clip(lane, -1));
        }
        refused("clip: 65", REST, OUTSIDE, x -> x.clip(0, 65));
        refused("clip: most", REST, OUTSIDE, x -> x.clip(4, MAX));
        refused("clip: 65 ahead of full", FULL_CLIPS, OUTSIDE, x -> x.clip(0, 65));
        refused("clip: full", FULL_CLIPS, FULL, x -> x.clip(0, 0));
        refused("clip: full ahead of size", FULL_CLIPS, FULL, x -> x.clip(0, -1));
        refused("clip: size", REST, SIZE, x -> x.clip(0, -1));
        refused("clip: least size", REST, SIZE, x -> x.clip(4, MIN));
        refused("clip: size in a run", RUN, SIZE, x -> x.clip(3, -1));
    }

    // "UNKNOWN; OUTSIDE: LANE, or the word tells no number (NaN); STATE: a RUN is under way; CAST: the CLIP is of another
    // LANE; INDEX."

    private static void number() {
        for (int c : new int[] {MIN, -1, 2, 16, MAX}) {
            refused("number: clip " + c, REST, UNKNOWN, x -> x.number(c, 3, 0, 0));
        }
        refused("number: unknown ahead of lane", REST, UNKNOWN, x -> x.number(2, 5, 0, 0));
        refused("number: unknown ahead of NaN", REST, UNKNOWN, x -> x.number(2, 3, 0, NAN));
        refused("number: unknown ahead of state", RUN, UNKNOWN, x -> x.number(-1, 3, 0, 0));
        for (int lane : new int[] {MIN, -1, 5, MAX}) {
            refused("number: lane " + lane, REST, OUTSIDE, x -> x.number(0, lane, 0, 0));
            refused("number: lane " + lane + " ahead of state", RUN, OUTSIDE, x -> x.number(0, lane, 0, 0));
            refused("number: lane " + lane + " ahead of index", REST, OUTSIDE, x -> x.number(0, lane, 8, 0));
        }
        for (long word : new long[] {NAN, LEAST_NAN, 0x7fffffff, 0xff800001L, -1L}) {
            refused("number: NaN " + word, REST, OUTSIDE, x -> x.number(0, 3, 0, word));
            refused("number: NaN ahead of state " + word, RUN, OUTSIDE, x -> x.number(0, 3, 0, word));
            refused("number: NaN ahead of cast " + word, REST, OUTSIDE, x -> x.number(1, 3, 0, word));
            refused("number: NaN ahead of index " + word, REST, OUTSIDE, x -> x.number(0, 3, 8, word));
        }
        for (long word : new long[] {DOUBLE_NAN, Long.MAX_VALUE, 0xfff0000000000001L, -1L}) {
            refused("number: double NaN ahead of cast " + word, REST, OUTSIDE, x -> x.number(0, 4, 0, word));
            refused("number: double NaN ahead of state " + word, RUN, OUTSIDE, x -> x.number(0, 4, 0, word));
        }
        refused("number: state", RUN, STATE, x -> x.number(0, 3, 0, 0));
        refused("number: state ahead of cast", RUN, STATE, x -> x.number(0, 0, 0, 0));
        refused("number: state ahead of index", RUN, STATE, x -> x.number(0, 3, 8, 0));
        for (int lane : new int[] {0, 1, 2, 4}) {
            refused("number: cast of lane " + lane, REST, CAST, x -> x.number(0, lane, 0, 1));
            refused("number: cast ahead of index, lane " + lane, REST, CAST, x -> x.number(0, lane, 8, 1));
        }
        for (int i : new int[] {MIN, -1, 8, MAX}) {
            refused("number: index " + i, REST, INDEX, x -> x.number(0, 3, i, 1));
        }
        refused("number: index 4 of a shorter one", REST, INDEX, x -> x.number(1, 0, 4, 1));
    }

    // "0 also: there is no such CLIP, number."

    private static void sample() {
        for (int c : new int[] {MIN, -1, 2, 16, MAX}) {
            refused("sample: clip " + c, REST, 0, x -> x.sample(c, 0));
        }
        for (int i : new int[] {MIN, -1, 8, 64, MAX}) {
            refused("sample: number " + i, REST, 0, x -> x.sample(0, i));
        }
        refused("sample: number 4 of a shorter one", RUN, 0, x -> x.sample(1, 4));
    }

    // "OUTSIDE: KIND, a is not -8.0 .. 8.0; n of STEPS -64 .. 64, of ECHO, BELL above 16, of TABLE no CLIP; FULL;
    // SIZE: n of ECHO, BELL below 0."

    private static void plug() {
        for (int kind : new int[] {MIN, -1, 8, MAX}) {
            refused("plug: kind " + kind, REST, OUTSIDE, x -> x.plug(kind, 0, 0));
            refused("plug: kind ahead of full " + kind, FULL_PLUGS, OUTSIDE, x -> x.plug(kind, 0, 0));
        }
        for (int a : new int[] {ABOVE_8, BELOW_MINUS_8, ENDLESS, MINUS_ENDLESS, NAN, LEAST_NAN, -1, MAX}) {
            refused("plug: a by " + a, REST, OUTSIDE, x -> x.plug(0, a, 0));
            refused("plug: a ahead of full by " + a, FULL_PLUGS, OUTSIDE, x -> x.plug(6, a, 0));
            refused("plug: a ahead of size by " + a, REST, OUTSIDE, x -> x.plug(4, a, -1));
            refused("plug: a of a TABLE by " + a, REST, OUTSIDE, x -> x.plug(7, a, 0));
        }
        for (int n : new int[] {MIN, -65, 65, MAX}) {
            refused("plug: STEPS " + n, REST, OUTSIDE, x -> x.plug(3, 0, n));
            refused("plug: STEPS ahead of full " + n, FULL_PLUGS, OUTSIDE, x -> x.plug(3, 0, n));
        }
        for (int kind = 4; kind <= 5; kind++) {
            int echo = kind;
            for (int n : new int[] {17, MAX}) {
                refused("plug: ECHO " + n, REST, OUTSIDE, x -> x.plug(echo, 0, n));
                refused("plug: ECHO ahead of full " + n, FULL_PLUGS, OUTSIDE, x -> x.plug(echo, 0, n));
            }
            for (int n : new int[] {-1, MIN}) {
                refused("plug: full ahead of size " + n, FULL_PLUGS, FULL, x -> x.plug(echo, 0, n));
                refused("plug: size " + n, REST, SIZE, x -> x.plug(echo, 0, n));
                refused("plug: size in a run " + n, RUN, SIZE, x -> x.plug(echo, 0, n));
            }
        }
        for (int n : new int[] {MIN, -1, 2, 16, MAX}) {
            refused("plug: TABLE " + n, REST, OUTSIDE, x -> x.plug(7, 0, n));
            refused("plug: TABLE ahead of full " + n, FULL_PLUGS, OUTSIDE, x -> x.plug(7, 0, n));
        }
        for (int kind = 0; kind < 8; kind++) {
            int any = kind;
            refused("plug: full for kind " + kind, FULL_PLUGS, FULL, x -> x.plug(any, 0, 1));
        }
    }

    // "4 how many SAMPLES its LINE has (CAST: it is no ECHO; NULL: there is no LINE, of 4), 5 + i .. (CAST; NULL; INDEX).
    // UNKNOWN; OUTSIDE: what is not 0 .. 20."

    private static void plugged() {
        for (int p : new int[] {MIN, -1, 8, 12, MAX}) {
            refused("plugged: plug " + p, REST, UNKNOWN, x -> x.plugged(p, 0));
            refused("plugged: unknown ahead of outside " + p, REST, UNKNOWN, x -> x.plugged(p, 21));
        }
        for (int what : new int[] {MIN, -1, 21, MAX}) {
            refused("plugged: what " + what, REST, OUTSIDE, x -> x.plugged(4, what));
            refused("plugged: outside ahead of cast " + what, REST, OUTSIDE, x -> x.plugged(0, what));
            refused("plugged: outside ahead of null " + what, REST, OUTSIDE, x -> x.plugged(5, what));
        }
        for (int kind : new int[] {0, 1, 2, 3, 6, 7}) {
            for (int what : new int[] {3, 4, 5, 20}) {
                refused("plugged: cast of " + kind + ", " + what, RUN, CAST, x -> x.plugged(kind, what));
            }
        }
        for (int what : new int[] {4, 5, 20}) {
            refused("plugged: null, ahead of index, " + what, RUN, NULL, x -> x.plugged(5, what));
        }
        refused("plugged: at without a line", RUN, 0, x -> x.plugged(5, 3));
        for (int what : new int[] {8, 9, 20}) {
            refused("plugged: index " + (what - 5) + " of 3", RUN, INDEX, x -> x.plugged(4, what));
        }
    }

    // "UNKNOWN: TRACK, CLIP; FULL."

    private static void track() {
        for (int t : NO_TRACKS) {
            refused("track: track " + t, REST, UNKNOWN, x -> x.track(t, 0, 0, true));
            refused("track: unknown in a run " + t, RUN, UNKNOWN, x -> x.track(t, NONE, 0, true));
            refused("track: unknown ahead of full " + t, FULL_QUEUE, UNKNOWN, x -> x.track(t, 0, 0, true));
        }
        for (int c : new int[] {MIN, -2, 2, 16, MAX}) {
            refused("track: clip " + c, REST, UNKNOWN, x -> x.track(0, c, 5, true));
            refused("track: clip in a run " + c, RUN, UNKNOWN, x -> x.track(0, c, 5, true));
            refused("track: clip ahead of full " + c, FULL_QUEUE, UNKNOWN, x -> x.track(0, c, 5, true));
        }
        refused("track: full", FULL_QUEUE, FULL, x -> x.track(0, NONE, 5, true));
    }

    // "UNKNOWN; FULL."

    private static void pure() {
        for (int t : NO_TRACKS) {
            refused("pure: track " + t, REST, UNKNOWN, x -> x.pure(t, true));
            refused("pure: unknown in a run " + t, RUN, UNKNOWN, x -> x.pure(t, true));
            refused("pure: unknown ahead of full " + t, FULL_QUEUE, UNKNOWN, x -> x.pure(t, false));
        }
        refused("pure: full", FULL_QUEUE, FULL, x -> x.pure(0, true));
    }

    // "UNKNOWN: TRACK, PLUG; FULL; INDEX: j; STORE: it is no GAIN, and the TRACK is PURE. (The last two when it is done.)"

    private static void chain() {
        for (int t : NO_TRACKS) {
            refused("chain: track " + t, REST, UNKNOWN, x -> x.chain(t, 0, 0));
            refused("chain: unknown ahead of index " + t, REST, UNKNOWN, x -> x.chain(t, 4, NONE));
            refused("chain: unknown ahead of full " + t, FULL_QUEUE, UNKNOWN, x -> x.chain(t, 0, 0));
        }
        for (int p : new int[] {MIN, -2, 8, 12, MAX}) {
            refused("chain: plug " + p, REST, UNKNOWN, x -> x.chain(0, 0, p));
            refused("chain: plug in a run " + p, RUN, UNKNOWN, x -> x.chain(0, 0, p));
            refused("chain: plug ahead of index " + p, REST, UNKNOWN, x -> x.chain(1, -1, p));
            refused("chain: plug ahead of full " + p, FULL_QUEUE, UNKNOWN, x -> x.chain(0, 0, p));
        }
        refused("chain: full", FULL_QUEUE, FULL, x -> x.chain(0, 0, 1));
        refused("chain: full ahead of index", FULL_QUEUE, FULL, x -> x.chain(0, 4, 1));
        refused("chain: full ahead of store", FULL_QUEUE, FULL, x -> x.chain(1, 0, 4));
        for (int j : new int[] {MIN, -1, 4, MAX}) {
            refused("chain: index " + j, REST, INDEX, x -> x.chain(0, j, 1));
            refused("chain: index of nothing " + j, REST, INDEX, x -> x.chain(0, j, NONE));
            refused("chain: index ahead of store " + j, REST, INDEX, x -> x.chain(1, j, 4));
        }
        for (int p = 3; p < 8; p++) {
            int other = p;
            refused("chain: store " + p, REST, STORE, x -> x.chain(1, 0, other));
            refused("chain: store at an empty place " + p, REST, STORE, x -> x.chain(1, 3, other));
        }
    }

    // "UNKNOWN; OUTSIDE: it is not 0.0 .. 8.0; FULL."

    private static void level() {
        for (int t : NO_TRACKS) {
            refused("level: track " + t, REST, UNKNOWN, x -> x.level(t, 0));
            refused("level: unknown ahead of outside " + t, REST, UNKNOWN, x -> x.level(t, NAN));
            refused("level: unknown ahead of full " + t, FULL_QUEUE, UNKNOWN, x -> x.level(t, 0));
        }
        for (int bits : new int[] {0x80000001, 0xbf800000, ABOVE_8, ENDLESS, MINUS_ENDLESS, NAN, LEAST_NAN, -1, MAX}) {
            refused("level: by " + bits, REST, OUTSIDE, x -> x.level(0, bits));
            refused("level: in a run by " + bits, RUN, OUTSIDE, x -> x.level(0, bits));
            refused("level: outside ahead of full by " + bits, FULL_QUEUE, OUTSIDE, x -> x.level(0, bits));
        }
        refused("level: full", FULL_QUEUE, FULL, x -> x.level(0, 0));
    }

    // "UNKNOWN; FULL."

    private static void on() {
        for (int t : NO_TRACKS) {
            refused("on: track " + t, REST, UNKNOWN, x -> x.on(t, true));
            refused("on: unknown in a run " + t, RUN, UNKNOWN, x -> x.on(t, false));
            refused("on: unknown ahead of full " + t, FULL_QUEUE, UNKNOWN, x -> x.on(t, true));
        }
        refused("on: full", FULL_QUEUE, FULL, x -> x.on(0, false));
    }

    // "UNKNOWN; OUTSIDE: n is above 16; FULL; CAST: it is no ECHO; SIZE: n is below -1. (The last two when it is done.)"

    private static void line() {
        for (int p : new int[] {MIN, -1, 8, 12, MAX}) {
            refused("line: plug " + p, REST, UNKNOWN, x -> x.line(p, 1));
            refused("line: unknown ahead of outside " + p, REST, UNKNOWN, x -> x.line(p, 17));
            refused("line: unknown ahead of size " + p, REST, UNKNOWN, x -> x.line(p, -2));
            refused("line: unknown ahead of full " + p, FULL_QUEUE, UNKNOWN, x -> x.line(p, 1));
        }
        for (int n : new int[] {17, MAX}) {
            refused("line: of " + n, REST, OUTSIDE, x -> x.line(4, n));
            refused("line: outside in a run of " + n, RUN, OUTSIDE, x -> x.line(4, n));
            refused("line: outside ahead of cast of " + n, REST, OUTSIDE, x -> x.line(0, n));
            refused("line: outside ahead of full of " + n, FULL_QUEUE, OUTSIDE, x -> x.line(4, n));
        }
        refused("line: full", FULL_QUEUE, FULL, x -> x.line(4, 1));
        refused("line: full ahead of cast", FULL_QUEUE, FULL, x -> x.line(0, 1));
        refused("line: full ahead of size", FULL_QUEUE, FULL, x -> x.line(4, -2));
        for (int kind : new int[] {0, 1, 2, 3, 6, 7}) {
            refused("line: cast of " + kind, REST, CAST, x -> x.line(kind, 1));
            refused("line: cast of none, " + kind, REST, CAST, x -> x.line(kind, NONE));
            refused("line: cast ahead of size, " + kind, REST, CAST, x -> x.line(kind, -2));
        }
        for (int n : new int[] {-2, MIN}) {
            refused("line: size " + n, REST, SIZE, x -> x.line(4, n));
            refused("line: size without a line " + n, REST, SIZE, x -> x.line(5, n));
        }
    }

    // "(1 .. 4) .. OUTSIDE; STATE: a RUN is under way."

    private static void hire() {
        for (int n : new int[] {MIN, -1, 0, 5, MAX}) {
            refused("hire: " + n, REST, OUTSIDE, x -> x.hire(n));
            refused("hire: outside ahead of state " + n, RUN, OUTSIDE, x -> x.hire(n));
        }
        for (int n = 1; n <= 4; n++) {
            int workers = n;
            refused("hire: state " + n, RUN, STATE, x -> x.hire(workers));
        }
    }

    // "(1 .. 8) .. OUTSIDE; STATE: one is under way; FULL: there would be more than 64."

    private static void render() {
        for (int n : new int[] {MIN, -1, 0, 9, MAX}) {
            refused("render: " + n, REST, OUTSIDE, x -> x.render(n));
            refused("render: outside ahead of state " + n, RUN, OUTSIDE, x -> x.render(n));
            refused("render: outside ahead of full " + n, FULL_BLOCKS, OUTSIDE, x -> x.render(n));
        }
        refused("render: state 1", RUN, STATE, x -> x.render(1));
        refused("render: state 8", RUN, STATE, x -> x.render(8));
        refused("render: state in a new run, told to stop", x -> {
            run(x);
            x.stop();
        }, STATE, x -> x.render(1));
        refused("render: state ahead of full", x -> {
            blocks(x, 61);
            x.render(3);
        }, STATE, x -> x.render(8));
        refused("render: 1 behind 64", FULL_BLOCKS, FULL, x -> x.render(1));
        refused("render: 8 behind 64", FULL_BLOCKS, FULL, x -> x.render(8));
        refused("render: 4 behind 61", NEARLY_FULL_BLOCKS, FULL, x -> x.render(4));
        refused("render: 8 behind 61", NEARLY_FULL_BLOCKS, FULL, x -> x.render(8));
    }

    // "UNKNOWN; STATE: no RUN is under way."

    private static void turn() {
        for (int w : new int[] {MIN, -1, 2, 3, 4, MAX}) {
            refused("turn: worker " + w, RUN, UNKNOWN, x -> x.turn(w));
            refused("turn: unknown ahead of state " + w, REST, UNKNOWN, x -> x.turn(w));
        }
        refused("turn: state", REST, STATE, x -> x.turn(0));
        refused("turn: state of the last", REST, STATE, x -> x.turn(1));
        refused("turn: state of a new object", x -> { }, STATE, x -> x.turn(0));
    }

    // "n (0 .. 200) .. UNKNOWN; OUTSIDE; STATE: no RUN is under way."

    private static void rounds() {
        for (int w : new int[] {MIN, -1, 2, 4, MAX}) {
            refused("rounds: worker " + w, RUN, UNKNOWN, x -> x.rounds(w, 5));
            refused("rounds: unknown ahead of outside " + w, RUN, UNKNOWN, x -> x.rounds(w, 201));
            refused("rounds: unknown ahead of state " + w, REST, UNKNOWN, x -> x.rounds(w, 5));
        }
        for (int n : new int[] {MIN, -1, 201, MAX}) {
            refused("rounds: " + n, RUN, OUTSIDE, x -> x.rounds(0, n));
            refused("rounds: outside ahead of state " + n, REST, OUTSIDE, x -> x.rounds(1, n));
        }
        refused("rounds: state", REST, STATE, x -> x.rounds(0, 1));
        refused("rounds: state for no turns", REST, STATE, x -> x.rounds(0, 0));
        refused("rounds: no turns", RUN, 0, x -> x.rounds(1, 0));
    }

    // "0: it was told so already. STATE: no RUN is under way."

    private static void stop() {
        refused("stop: state", REST, STATE, ScoreThreads::stop);
        refused("stop: state of a new object", x -> { }, STATE, ScoreThreads::stop);
        refused("stop: told so already", x -> {
            run(x);
            x.stop();
        }, 0, ScoreThreads::stop);
    }

    // "0 also: there is none."

    private static void out() {
        for (int i : new int[] {MIN, -1, 8, 511, 512, MAX}) {
            refused("out: " + i, RUN, 0, x -> x.out(i));
        }
        refused("out: of a new object", x -> { }, 0, x -> x.out(0));
    }

    // "6 + j the PLUG at place j (NONE; INDEX: j is 4 or more) .. UNKNOWN; OUTSIDE: what is not 0 .. 20."

    private static void told() {
        for (int t : NO_TRACKS) {
            refused("told: track " + t, RUN, UNKNOWN, x -> x.told(t, 0));
            refused("told: unknown ahead of outside " + t, REST, UNKNOWN, x -> x.told(t, 21));
            refused("told: unknown ahead of index " + t, REST, UNKNOWN, x -> x.told(t, 10));
        }
        for (int what : new int[] {MIN, -1, 21, MAX}) {
            refused("told: what " + what, RUN, OUTSIDE, x -> x.told(0, what));
        }
        for (int what = 10; what < 20; what++) {
            int place = what;
            refused("told: place " + (what - 6), RUN, INDEX, x -> x.told(0, place));
        }
    }

    // "UNKNOWN."

    private static void worker() {
        for (int w : new int[] {MIN, -1, 2, 3, 4, MAX}) {
            refused("worker: " + w, RUN, UNKNOWN, x -> x.worker(w));
        }
        refused("worker: none", RUN, NONE, x -> x.worker(1));
    }

    // "OUTSIDE: what; NONE: there is no such FAULT."

    private static void fault() {
        for (int what : new int[] {MIN, -1, 5, MAX}) {
            refused("fault: what " + what, REST, OUTSIDE, x -> x.fault(0, what));
            refused("fault: outside ahead of none " + what, REST, OUTSIDE, x -> x.fault(2, what));
        }
        for (int i : new int[] {MIN, -1, 2, 100, MAX}) {
            refused("fault: " + i, REST, NONE, x -> x.fault(i, 0));
            refused("fault: its last fact " + i, RUN, NONE, x -> x.fault(i, 4));
        }
    }

    // "(1 .. 6) .. OUTSIDE."

    private static void found() {
        for (int f : new int[] {MIN, -1, 0, 7, MAX}) {
            refused("found: " + f, REST, OUTSIDE, x -> x.found(f));
        }
    }

    // "OUTSIDE."

    private static void about() {
        for (int what : new int[] {MIN, -1, 11, MAX}) {
            refused("about: " + what, RUN, OUTSIDE, x -> x.about(what));
        }
    }
}
