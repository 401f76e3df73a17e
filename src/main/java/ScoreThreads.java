import java.util.Arrays;

/** A studio that renders tracks block by block; ../shared/DOC.md says what it must do. */
public final class ScoreThreads {
    public static final int NONE = -1, UNKNOWN = -101, OUTSIDE = -102, STATE = -103, FULL = -104;

    private static final int NULL = 1, INDEX = 2, CAST = 3, STORE = 4, SIZE = 5, ZERO = 6;
    private static final int FINDINGS = 6;

    private static final int BLOCK = 8;
    private static final int MOST_BLOCKS = 64;
    private static final int MOST_BLOCKS_OF_A_RUN = 8;
    private static final int MOST_CLIPS = 16;
    private static final int MOST_NUMBERS = 64;
    private static final int MOST_PLUGS = 12;
    private static final int MOST_LINE = 16;
    private static final int TRACKS = 8;
    private static final int PLACES = 4;
    private static final int MOST_WORKERS = 4;
    private static final int MOST_EDITS = 30;
    private static final int MOST_FAULTS = 100;
    private static final int MOST_TURNS = 200;

    private static final int BYTE = 0, SHORT = 1, INT = 2, FLOAT = 3, DOUBLE = 4;
    private static final int GAIN = 0, WARM = 1, FOLD = 2, STEPS = 3, ECHO = 4, BELL = 5, GATE = 6, TABLE = 7;
    private static final int FINEST_STEPS = 64;

    private static final int NOTHING = 0, OPEN = 1, HELD = 2, DONE = 3, FAILED = 4, SILENT = 5;
    private static final int NOT_YET = -2;
    private static final int WAITED = 0, STEPPED = 1, FELL = 2, MIXED = 3, ENDED = 4;
    private static final int EDIT_TRACK = 0, EDIT_PURE = 1, EDIT_CHAIN = 2, EDIT_LEVEL = 3, EDIT_ON = 4, EDIT_LINE = 5;

    private final Clip[] clips = new Clip[MOST_CLIPS];
    private int clipCount = 0;
    private final Plug[] plugs = new Plug[MOST_PLUGS];
    private int plugCount = 0;
    private final Track[] tracks = new Track[TRACKS];
    private final Run run = new Run();
    private final int[] outBits = new int[MOST_BLOCKS * BLOCK];
    private final Edit[] queue = new Edit[MOST_EDITS];
    private int queued = 0;
    private int editsDone = 0;
    private final Faults faults = new Faults();
    private final int[] findings = new int[FINDINGS + 1];
    private final float[] scratch = new float[BLOCK];

    public ScoreThreads() {
        for (int t = 0; t < TRACKS; t++) {
            tracks[t] = new Track();
        }
        for (int e = 0; e < MOST_EDITS; e++) {
            queue[e] = new Edit();
        }
    }

    // ---- clips, plugs

    public int clip(int lane, int n) {
        if (!isLane(lane) || n > MOST_NUMBERS) {
            return OUTSIDE;
        }
        if (clipCount >= MOST_CLIPS) {
            return FULL;
        }
        if (n < 0) {
            return finding(SIZE);
        }
        clips[clipCount] = new Clip(lane, n);
        clipCount++;
        return clipCount - 1;
    }

    public int number(int c, int lane, int i, long word) {
        Clip clip = clipAt(c);
        if (clip == null) {
            return UNKNOWN;
        }
        if (!isLane(lane) || !Floats.isNumber(lane, word)) {
            return OUTSIDE;
        }
        if (run.underWay) {
            return STATE;
        }
        if (clip.lane != lane) {
            return finding(CAST);
        }
        if (!clip.has(i)) {
            return finding(INDEX);
        }
        clip.samples[i] = Floats.sampleOf(lane, word);
        return 0;
    }

    public int sample(int c, int i) {
        Clip clip = clipAt(c);
        return clip == null || !clip.has(i) ? 0 : Floats.bitsOf(clip.samples[i]);
    }

    public int plug(int kind, int a, int n) {
        if (kind < GAIN || kind > TABLE || !Floats.isWithinEight(a) || isOutside(kind, n)) {
            return OUTSIDE;
        }
        if (plugCount >= MOST_PLUGS) {
            return FULL;
        }
        if (n < 0 && (kind == ECHO || kind == BELL)) {
            return finding(SIZE);
        }
        plugs[plugCount] = new Plug(kind, Floats.floatOf(a), n, kind == TABLE ? clipAt(n) : null);
        plugCount++;
        return plugCount - 1;
    }

    public int plugged(int p, int what) {
        Plug plug = plugAt(p);
        if (plug == null) {
            return UNKNOWN;
        }
        if (what < 0 || what > 20) {
            return OUTSIDE;
        }
        switch (what) {
            case 0:
                return plug.kind;
            case 1:
                return plug.tail();
            case 2:
                return plug.uses;
            default:
                return lineFact(plug, what);
        }
    }

    // ---- edits: 1 it was done, 0 it is queued

    public int track(int t, int clip, int start, boolean strict) {
        if (trackAt(t) == null || (clip != NONE && clipAt(clip) == null)) {
            return UNKNOWN;
        }
        return edit(EDIT_TRACK, t, clip, start, strict);
    }

    public int pure(int t, boolean is) {
        return trackAt(t) == null ? UNKNOWN : edit(EDIT_PURE, t, 0, 0, is);
    }

    public int chain(int t, int j, int p) {
        if (trackAt(t) == null || (p != NONE && plugAt(p) == null)) {
            return UNKNOWN;
        }
        return edit(EDIT_CHAIN, t, j, p, false);
    }

    public int level(int t, int bits) {
        if (trackAt(t) == null) {
            return UNKNOWN;
        }
        // -0.0 is not below 0.0, so it is a LEVEL although its sign bit is set
        if (!Floats.isWithinEight(bits) || (bits < 0 && bits != Floats.SIGN)) {
            return OUTSIDE;
        }
        return edit(EDIT_LEVEL, t, bits, 0, false);
    }

    public int on(int t, boolean is) {
        return trackAt(t) == null ? UNKNOWN : edit(EDIT_ON, t, 0, 0, is);
    }

    public int line(int p, int n) {
        if (plugAt(p) == null) {
            return UNKNOWN;
        }
        return n > MOST_LINE ? OUTSIDE : edit(EDIT_LINE, p, n, 0, false);
    }

    // ---- runs

    public int hire(int n) {
        if (n < 1 || n > MOST_WORKERS) {
            return OUTSIDE;
        }
        if (run.underWay) {
            return STATE;
        }
        int before = run.workers;
        run.workers = n;
        return before;
    }

    public int render(int n) {
        if (n < 1 || n > MOST_BLOCKS_OF_A_RUN) {
            return OUTSIDE;
        }
        if (run.underWay) {
            return STATE;
        }
        if (run.blocks + n > MOST_BLOCKS) {
            return FULL;
        }
        run.underWay = true;
        run.stopping = false;
        run.left = n;
        beginBlock();
        return run.blocks;
    }

    public int turn(int w) {
        if (!isWorker(w)) {
            return UNKNOWN;
        }
        return run.underWay ? takeTurn(w) : STATE;
    }

    public int rounds(int w, int n) {
        if (!isWorker(w)) {
            return UNKNOWN;
        }
        if (n < 0 || n > MOST_TURNS) {
            return OUTSIDE;
        }
        if (!run.underWay) {
            return STATE;
        }
        int taken = 0;
        int next = w;
        while (taken < n && run.underWay) {
            takeTurn(next);
            taken++;
            next = next + 1 < run.workers ? next + 1 : 0;
        }
        return taken;
    }

    public int stop() {
        if (!run.underWay) {
            return STATE;
        }
        int answer = run.stopping ? 0 : 1;
        run.stopping = true;
        return answer;
    }

    // ---- what is told

    public int out(int i) {
        return i < 0 || i >= outCount() ? 0 : outBits[i];
    }

    public int told(int t, int what) {
        Track track = trackAt(t);
        if (track == null) {
            return UNKNOWN;
        }
        if (what < 0 || what > 20) {
            return OUTSIDE;
        }
        if (what == 20) {
            return track.status;
        }
        return what - 6 >= PLACES ? finding(INDEX) : track.fact(what);
    }

    public int worker(int w) {
        return isWorker(w) ? run.held[w] : UNKNOWN;
    }

    public int fault(int i, int what) {
        if (what < 0 || what >= Faults.FACTS) {
            return OUTSIDE;
        }
        return faults.fact(i, what);
    }

    public int found(int f) {
        return f < 1 || f > FINDINGS ? OUTSIDE : findings[f];
    }

    public int about(int what) {
        switch (what) {
            case 0:
                return clipCount;
            case 1:
                return plugCount;
            case 2:
                return run.workers;
            case 3:
                return run.blocks;
            case 4:
                return faults.all;
            case 5:
                return queued;
            case 6:
                return editsDone;
            case 7:
                return asInt(run.underWay);
            case 8:
                return run.left;
            case 9:
                return run.steps;
            case 10:
                return run.waits;
            default:
                return OUTSIDE;
        }
    }

    public long digest() {
        long h = 17;
        for (int i = 0; i < outCount(); i++) {
            h = 31 * h + outBits[i];
        }
        for (int p = 0; p < plugCount; p++) {
            Plug plug = plugAt(p);
            h = plug == null ? h : plug.digested(h);
        }
        for (int t = 0; t < TRACKS; t++) {
            for (int what = 0; what < 6 + PLACES; what++) {
                h = 31 * h + tracks[t].fact(what);
            }
        }
        for (int i = 0; i < faults.noted; i++) {
            for (int what = 0; what < Faults.FACTS; what++) {
                h = 31 * h + faults.fact(i, what);
            }
        }
        return 31 * h + editsDone;
    }

    // ---- looking things up

    private Clip clipAt(int c) {
        return c < 0 || c >= clipCount || c >= MOST_CLIPS ? null : clips[c];
    }

    private Plug plugAt(int p) {
        return p < 0 || p >= plugCount || p >= MOST_PLUGS ? null : plugs[p];
    }

    private Track trackAt(int t) {
        return t < 0 || t >= TRACKS ? null : tracks[t];
    }

    private boolean isWorker(int w) {
        return w >= 0 && w < run.workers && w < MOST_WORKERS;
    }

    private int outCount() {
        return Math.min(run.blocks * BLOCK, outBits.length);
    }

    private static boolean isLane(int lane) {
        return lane >= BYTE && lane <= DOUBLE;
    }

    private boolean isOutside(int kind, int n) {
        switch (kind) {
            case STEPS:
                return n < -FINEST_STEPS || n > FINEST_STEPS;
            case ECHO:
            case BELL:
                return n > MOST_LINE;
            case TABLE:
                return clipAt(n) == null;
            default:
                return false;
        }
    }

    private int lineFact(Plug plug, int what) {
        if (!plug.isEcho()) {
            return finding(CAST);
        }
        if (what == 3) {
            return plug.at;
        }
        if (plug.lineCount == NONE) {
            return finding(NULL);
        }
        if (what == 4) {
            return plug.lineCount;
        }
        int i = what - 5;
        return plug.hasInLine(i) ? Floats.bitsOf(plug.line[i]) : finding(INDEX);
    }

    private int finding(int f) {
        findings[f]++;
        return -10 - f;
    }

    private static int asInt(boolean is) {
        return is ? 1 : 0;
    }

    // ---- doing edits

    private int edit(int what, int whom, int x, int y, boolean is) {
        if (queued >= MOST_EDITS) {
            return FULL;
        }
        Edit edit = queue[queued];
        edit.keep(what, whom, x, y, is);
        if (!run.underWay) {
            return carryOut(edit);
        }
        queued++;
        return 0;
    }

    private int carryOut(Edit edit) {
        int f = edit.what == EDIT_LINE ? changeLine(plugAt(edit.whom), edit.x) : changeTrack(trackAt(edit.whom), edit);
        if (f != 0) {
            return finding(f);
        }
        editsDone++;
        return 1;
    }

    private int changeTrack(Track track, Edit edit) {
        if (track == null) {
            return NULL;
        }
        switch (edit.what) {
            case EDIT_TRACK:
                track.clip = edit.x;
                track.start = edit.y;
                track.strict = edit.is;
                return 0;
            case EDIT_PURE:
                Arrays.fill(track.chain, NONE);
                track.pure = edit.is;
                return 0;
            case EDIT_CHAIN:
                return changeChain(track, edit.x, edit.y);
            case EDIT_LEVEL:
                track.levelBits = edit.x;
                track.level = Floats.floatOf(edit.x);
                return 0;
            default:
                track.on = edit.is;
                return 0;
        }
    }

    private int changeChain(Track track, int j, int p) {
        if (j < 0 || j >= PLACES) {
            return INDEX;
        }
        Plug plug = plugAt(p);
        if (plug != null && track.pure && !plug.isGain()) {
            return STORE;
        }
        track.chain[j] = p;
        return 0;
    }

    private static int changeLine(Plug plug, int n) {
        if (plug == null || !plug.isEcho()) {
            return CAST;
        }
        if (n < NONE) {
            return SIZE;
        }
        plug.renewLine(n);
        return 0;
    }

    // ---- taking turns

    private void beginBlock() {
        for (int t = 0; t < TRACKS; t++) {
            tracks[t].beginBlock();
        }
    }

    private int takeTurn(int w) {
        int t = trackFor(w);
        if (t == NOT_YET) {
            run.waits++;
            return WAITED;
        }
        run.steps++;
        return t == NONE ? mix() : work(w, t);
    }

    /** The TRACK that a WORKER works on now; NONE: all are through, it MIXES; NOT_YET: it waits. */
    private int trackFor(int w) {
        int t = run.held[w];
        if (t != NONE) {
            return mustWait(t) ? NOT_YET : t;
        }
        t = leastTrack(OPEN);
        if (t != NONE) {
            return t;
        }
        return run.isAnyHeld() ? NOT_YET : leastTrack(FAILED);
    }

    private int leastTrack(int status) {
        for (int t = 0; t < TRACKS; t++) {
            if (tracks[t].status == status) {
                return t;
            }
        }
        return NONE;
    }

    private boolean mustWait(int t) {
        int p = tracks[t].nextPlug();
        for (int lesser = 0; lesser < t; lesser++) {
            if (tracks[lesser].keepsOthersFrom(p)) {
                return true;
            }
        }
        return false;
    }

    private int work(int w, int t) {
        Track track = tracks[t];
        track.status = HELD;
        int f = track.place == NONE ? load(track) : passThrough(plugAt(track.nextPlug()), track);
        if (f == 0) {
            track.goOn();
        } else {
            track.fail(f);
        }
        run.held[w] = track.status == HELD ? t : NONE;
        return f == 0 ? STEPPED : FELL;
    }

    private int load(Track track) {
        Clip clip = clipAt(track.clip);
        if (clip == null) {
            return NULL;
        }
        int first = track.start + BLOCK * run.blocks;
        for (int i = 0; i < BLOCK; i++) {
            boolean there = clip.has(first + i);
            if (!there && track.strict) {
                return INDEX;
            }
            track.samples[i] = there ? clip.samples[first + i] : 0.0f;
        }
        return 0;
    }

    // What fails must find the SAMPLES again as they were, so they are made aside first.
    private int passThrough(Plug plug, Track track) {
        if (plug == null) {
            return NULL;
        }
        for (int i = 0; i < BLOCK; i++) {
            int f = plug.findingAt(track.samples[i]);
            if (f != 0) {
                return f;
            }
            scratch[i] = plug.made(track.samples[i]);
        }
        System.arraycopy(scratch, 0, track.samples, 0, BLOCK);
        plug.uses++;
        return 0;
    }

    private int mix() {
        int base = run.blocks * BLOCK;
        for (int i = 0; i < BLOCK && base + i < outBits.length; i++) {
            outBits[base + i] = Floats.bitsOf(joined(i));
        }
        for (int t = 0; t < TRACKS; t++) {
            noteFaults(t);
        }
        run.blocks++;
        run.left--;
        for (int e = 0; e < queued && e < MOST_EDITS; e++) {
            carryOut(queue[e]);
        }
        queued = 0;
        if (run.left > 0 && !run.stopping) {
            beginBlock();
            return MIXED;
        }
        endRun();
        return ENDED;
    }

    private float joined(int i) {
        for (int t = 0; t < TRACKS; t++) {
            scratch[t] = tracks[t].levelled(i);
        }
        for (int width = 1; width < TRACKS; width = 2 * width) {
            for (int t = 0; t + width < TRACKS; t += 2 * width) {
                scratch[t] = Floats.clipped(scratch[t] + scratch[t + width]);
            }
        }
        return scratch[0];
    }

    private void noteFaults(int t) {
        Track track = tracks[t];
        for (int time = 0; time < track.fails && time < Track.MOST_FAILS; time++) {
            faults.note(t, run.blocks, track.failPlaces[time], track.failFindings[time], time + 1);
        }
    }

    private void endRun() {
        run.underWay = false;
        run.left = 0;
        for (int t = 0; t < TRACKS; t++) {
            tracks[t].status = NOTHING;
        }
    }

    /**
     * Floats by their bits, and what the document does with them, by the arithmetic that LANGUAGE.md leaves.
     * A zero with the sign of x is had as x * 0.0f.
     */
    private static final class Floats {
        static final int SIGN = 0x80000000;
        private static final int EIGHT = 0x41000000;
        private static final int ENDLESS = 0x7f800000;
        private static final long LONG_EIGHT = 0x4020000000000000L;
        private static final long LONG_ENDLESS = 0x7ff0000000000000L;
        private static final long LONG_SIZE = 0x7fffffffffffffffL;

        static boolean isWithinEight(int bits) {
            return (bits & ~SIGN) <= EIGHT;
        }

        static boolean isNumber(int lane, long word) {
            if (lane == FLOAT) {
                return ((int) word & ~SIGN) <= ENDLESS;
            }
            return lane != DOUBLE || (word & LONG_SIZE) <= LONG_ENDLESS;
        }

        static float sampleOf(int lane, long word) {
            switch (lane) {
                case BYTE:
                    return (float) ((byte) word / 128.0);
                case SHORT:
                    return (float) ((short) word / 32768.0);
                case INT:
                    return (float) ((int) word / 2147483648.0);
                case FLOAT:
                    return floatOf((int) word);
                default:
                    return nearestOf(word);
            }
        }

        /** The float that bits tell, CLIPPED; they tell a number. */
        static float floatOf(int bits) {
            if (!isWithinEight(bits)) {
                return bits < 0 ? -8.0f : 8.0f;
            }
            int exponent = (bits & ~SIGN) >>> 23;
            int fraction = bits & 0x7fffff;
            double whole = exponent == 0 ? fraction : fraction + 0x800000;
            return (float) signed(halved(whole, 150 - Math.max(exponent, 1)), bits < 0);
        }

        /** The nearest float of the double that bits tell, CLIPPED; they tell a number. */
        static float nearestOf(long bits) {
            if ((bits & LONG_SIZE) > LONG_EIGHT) {
                return bits < 0 ? -8.0f : 8.0f;
            }
            int exponent = (int) ((bits & LONG_SIZE) >>> 52);
            long fraction = bits & 0xfffffffffffffL;
            double whole = exponent == 0 ? fraction : fraction + 0x10000000000000L;
            return (float) signed(halved(whole, 1075 - Math.max(exponent, 1)), bits < 0);
        }

        private static double signed(double x, boolean negative) {
            return negative ? x * -1.0 : x;
        }

        private static double halved(double x, int times) {
            double rest = x;
            int left = times;
            for (; left >= 32; left -= 32) {
                rest = rest / 4294967296.0;
            }
            for (; left > 0; left--) {
                rest = rest / 2.0;
            }
            return rest;
        }

        /** The bits of a SAMPLE: its size is 8.0 at most. */
        static int bitsOf(float x) {
            if (x == 0.0f) {
                // only a division tells 0.0 from -0.0; it is endless, never NaN
                return 1.0f / x < 0.0f ? SIGN : 0;
            }
            // 8.0 is 2^23 with exponent 130; what is less is doubled until it has as many digits
            double whole = signed(x, x < 0.0f) * 1048576.0;
            int exponent = 130;
            for (; exponent > 16 && whole < 128.0; exponent -= 16) {
                whole = whole * 65536.0;
            }
            for (; exponent > 1 && whole < 8388608.0; exponent--) {
                whole = whole * 2.0;
            }
            // the leading digit is not written, but adds one to the exponent; below all exponents there is none
            int bits = ((exponent - 1) << 23) + (int) whole;
            return x < 0.0f ? bits | SIGN : bits;
        }

        static float clipped(float x) {
            if (x > 8.0f) {
                return 8.0f;
            }
            return x < -8.0f ? -8.0f : x;
        }

        static float size(float x) {
            return x < 0.0f ? x * -1.0f : x;
        }

        /** What is left of x by 1.0, with the sign of x. */
        static float restOf(float x) {
            float rest = x - (float) (int) x;
            return rest == 0.0f ? x * 0.0f : rest;
        }

        /** The nearest whole number, of two the even one, with the sign of x. */
        static float nearestWhole(float x) {
            int whole = (int) x;
            float rest = x - (float) whole;
            boolean odd = (whole & 1) != 0;
            if (rest > 0.5f || (odd && rest == 0.5f)) {
                whole++;
            } else if (rest < -0.5f || (odd && rest == -0.5f)) {
                whole--;
            }
            return whole == 0 ? x * 0.0f : (float) whole;
        }

        static float greater(float x, float y) {
            if (x == 0.0f && y == 0.0f) {
                // 0.0 is greater than -0.0, which comparisons do not see, but sums do
                return x + y;
            }
            return x < y ? y : x;
        }
    }

    /** A row of numbers; only their SAMPLES are ever asked for, so only these are kept. */
    private static final class Clip {
        final int lane;
        final float[] samples;

        Clip(int lane, int n) {
            this.lane = lane;
            this.samples = new float[Math.max(n, 0)];
        }

        boolean has(int i) {
            return i >= 0 && i < samples.length;
        }
    }

    /** A PLUG of any KIND. */
    private static final class Plug {
        final int kind;
        final float a;
        final int n;
        final Clip table;
        final float[] line = new float[MOST_LINE];
        int lineCount;
        int at = 0;
        int uses = 0;

        Plug(int kind, float a, int n, Clip table) {
            this.kind = kind;
            this.a = a;
            this.n = n;
            this.table = table;
            this.lineCount = kind == ECHO || kind == BELL ? n : NONE;
        }

        boolean isGain() {
            return kind == GAIN || kind == WARM || kind == FOLD;
        }

        boolean isEcho() {
            return kind == ECHO || kind == BELL;
        }

        boolean hasInLine(int i) {
            return i >= 0 && i < lineCount && i < line.length;
        }

        void renewLine(int count) {
            Arrays.fill(line, 0.0f);
            lineCount = count;
            at = 0;
        }

        int tail() {
            switch (kind) {
                case WARM:
                    return 1;
                case FOLD:
                    return 3;
                case ECHO:
                    return n;
                case BELL:
                    return n + 3;
                default:
                    return 0;
            }
        }

        /** The FINDING that a SAMPLE x meets here; 0: none. */
        int findingAt(float x) {
            switch (kind) {
                case STEPS:
                    return stepsToOne() == 0 ? ZERO : 0;
                case ECHO:
                case BELL:
                    if (lineCount == NONE) {
                        return NULL;
                    }
                    return hasInLine(at) ? 0 : INDEX;
                case TABLE:
                    return table != null && table.has(tablePlace(x)) ? 0 : INDEX;
                default:
                    return 0;
            }
        }

        /** What is made of a SAMPLE x that meets no FINDING. */
        float made(float x) {
            switch (kind) {
                case GAIN:
                case WARM:
                    return gained(x);
                case FOLD:
                    return Floats.restOf(gained(x));
                case STEPS:
                    return stepped(x);
                case ECHO:
                    return echoed(x);
                case BELL:
                    return Floats.greater(echoed(x), a);
                case GATE:
                    return Floats.size(x) < Floats.size(a) ? x * 0.0f : x;
                default:
                    return lookedUp(x);
            }
        }

        private float gained(float x) {
            return Floats.clipped(x * a);
        }

        private int stepsToOne() {
            return n == 0 ? 0 : FINEST_STEPS / n;
        }

        private float stepped(float x) {
            int steps = stepsToOne();
            if (steps == 0) {
                return x;
            }
            float m = (float) steps;
            return Floats.clipped(Floats.nearestWhole(x * m) / m);
        }

        private float echoed(float x) {
            if (!hasInLine(at)) {
                return x;
            }
            float y = Floats.clipped(x + a * line[at]);
            line[at] = y;
            at = at + 1 < lineCount ? at + 1 : 0;
            return y;
        }

        private static int tablePlace(float x) {
            return (int) ((x + 8.0f) * 4.0f);
        }

        private float lookedUp(float x) {
            int place = tablePlace(x);
            return table != null && table.has(place) ? table.samples[place] : x;
        }

        long digested(long before) {
            long h = 31 * before + uses;
            if (!isEcho()) {
                return h;
            }
            h = 31 * h + at;
            h = 31 * h + lineCount;
            for (int i = 0; i < lineCount && i < line.length; i++) {
                h = 31 * h + Floats.bitsOf(line[i]);
            }
            return h;
        }
    }

    /** A TRACK, and how far it is in the BLOCK under way. */
    private static final class Track {
        static final int MOST_FAILS = 2;

        boolean on = false;
        int clip = NONE;
        int start = 0;
        boolean strict = false;
        int levelBits = 0x3f800000;
        float level = 1.0f;
        boolean pure = false;
        final int[] chain = {NONE, NONE, NONE, NONE};

        final float[] samples = new float[BLOCK];
        int status = NOTHING;
        /** The place of the CHAIN that is next; NONE: it is to be LOADED. */
        int place = NONE;
        int fails = 0;
        final int[] failPlaces = new int[MOST_FAILS];
        final int[] failFindings = new int[MOST_FAILS];

        int fact(int what) {
            switch (what) {
                case 0:
                    return asInt(on);
                case 1:
                    return clip;
                case 2:
                    return start;
                case 3:
                    return asInt(strict);
                case 4:
                    return levelBits;
                case 5:
                    return asInt(pure);
                default:
                    return plugAtPlace(what - 6);
            }
        }

        private int plugAtPlace(int j) {
            return j >= 0 && j < PLACES ? chain[j] : NONE;
        }

        int nextPlug() {
            return plugAtPlace(place);
        }

        void beginBlock() {
            status = on ? OPEN : NOTHING;
            place = NONE;
            fails = 0;
        }

        boolean keepsOthersFrom(int p) {
            if (status != OPEN && status != HELD) {
                return false;
            }
            for (int j = Math.max(place, 0); j < PLACES; j++) {
                if (chain[j] == p) {
                    return true;
                }
            }
            return false;
        }

        void goOn() {
            for (int j = place + 1; j < PLACES; j++) {
                if (plugAtPlace(j) != NONE) {
                    place = j;
                    return;
                }
            }
            status = DONE;
        }

        void fail(int f) {
            if (fails < MOST_FAILS) {
                failPlaces[fails] = place;
                failFindings[fails] = f;
                fails++;
            }
            if (fails < MOST_FAILS) {
                status = FAILED;
                return;
            }
            status = SILENT;
            Arrays.fill(samples, 0.0f);
        }

        float levelled(int i) {
            return on && i >= 0 && i < BLOCK ? Floats.clipped(samples[i] * level) : 0.0f;
        }
    }

    /** An EDIT that waits for the end of a BLOCK. */
    private static final class Edit {
        int what = 0;
        int whom = 0;
        int x = 0;
        int y = 0;
        boolean is = false;

        void keep(int what, int whom, int x, int y, boolean is) {
            this.what = what;
            this.whom = whom;
            this.x = x;
            this.y = y;
            this.is = is;
        }
    }

    /** The RUN under way, its WORKERS, and what is counted over all RUNS. */
    private static final class Run {
        boolean underWay = false;
        boolean stopping = false;
        int left = 0;
        int blocks = 0;
        int workers = 2;
        final int[] held = {NONE, NONE, NONE, NONE};
        int steps = 0;
        int waits = 0;

        boolean isAnyHeld() {
            for (int w = 0; w < MOST_WORKERS; w++) {
                if (held[w] != NONE) {
                    return true;
                }
            }
            return false;
        }
    }

    /** The FAULTS that are noted, and how many there were. */
    private static final class Faults {
        static final int FACTS = 5;

        private final int[] facts = new int[MOST_FAULTS * FACTS];
        int noted = 0;
        int all = 0;

        void note(int track, int block, int place, int f, int time) {
            all++;
            if (noted >= MOST_FAULTS) {
                return;
            }
            int first = noted * FACTS;
            facts[first] = track;
            facts[first + 1] = block;
            facts[first + 2] = place;
            facts[first + 3] = f;
            facts[first + 4] = time;
            noted++;
        }

        int fact(int i, int what) {
            return i < 0 || i >= noted || what < 0 || what >= FACTS ? NONE : facts[i * FACTS + what];
        }
    }
}
