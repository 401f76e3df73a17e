/** Promises 7 to 12 and 22: edits, done at once or queued, and the FINDINGS that they meet. */
public final class EditsTest {
    private static final int INDEX = -12, CAST = -13, STORE = -14, SIZE = -15;
    private static final int UNKNOWN = ScoreThreads.UNKNOWN, OUTSIDE = ScoreThreads.OUTSIDE, FULL = ScoreThreads.FULL;
    private static final Checks checks = new Checks();

    private static void due(String call, long got, long want) {
        checks.due(call, got, want);
    }

    public static void main(String[] args) {
        tracks();
        pures();
        chains();
        levels();
        ons();
        lines();
        queued();
        queuedInOrder();
        fullQueue();
        foundRefused();
        checks.finish();
    }

    private static ScoreThreads studio() {
        ScoreThreads x = new ScoreThreads();
        x.clip(0, 8);
        for (int kind = 0; kind < 8; kind++) {
            x.plug(kind, 0, 0);
        }
        return x;
    }

    private static void tracks() {
        ScoreThreads x = studio();
        due("track 8", x.track(8, 0, 0, false), UNKNOWN);
        due("track -1", x.track(-1, 0, 0, false), UNKNOWN);
        due("clip 1", x.track(0, 1, 0, false), UNKNOWN);
        due("clip -2", x.track(0, -2, 0, false), UNKNOWN);
        due("none was done", x.about(6), 0);
        due("track", x.track(7, 0, Integer.MIN_VALUE, true), 1);
        due("its clip", x.told(7, 1), 0);
        due("its start", x.told(7, 2), Integer.MIN_VALUE);
        due("strict", x.told(7, 3), 1);
        due("without a clip", x.track(7, ScoreThreads.NONE, 5, false), 1);
        due("no clip", x.told(7, 1), ScoreThreads.NONE);
        due("its new start", x.told(7, 2), 5);
        due("not strict", x.told(7, 3), 0);
        due("another track", x.told(6, 2), 0);
        due("two were done", x.about(6), 2);
    }

    private static void pures() {
        ScoreThreads x = studio();
        due("pure 8", x.pure(8, true), UNKNOWN);
        due("pure -1", x.pure(-1, true), UNKNOWN);
        x.chain(2, 0, 4);
        x.chain(2, 3, 0);
        due("pure", x.pure(2, true), 1);
        due("is pure", x.told(2, 5), 1);
        for (int j = 0; j < 4; j++) {
            due("emptied " + j, x.told(2, 6 + j), ScoreThreads.NONE);
        }
        x.chain(2, 1, 2);
        due("pure again", x.pure(2, true), 1);
        due("emptied again", x.told(2, 7), ScoreThreads.NONE);
        due("not pure", x.pure(2, false), 1);
        due("is not pure", x.told(2, 5), 0);
    }

    private static void chains() {
        ScoreThreads x = studio();
        due("chain of 8", x.chain(8, 9, 99), UNKNOWN);
        due("plug 8", x.chain(0, 9, 8), UNKNOWN);
        due("plug -2", x.chain(0, 9, -2), UNKNOWN);
        due("place 4", x.chain(0, 4, 0), INDEX);
        due("place -1", x.chain(0, -1, 0), INDEX);
        due("place 4 of none", x.chain(0, 4, ScoreThreads.NONE), INDEX);
        due("place 3", x.chain(0, 3, 7), 1);
        due("plug at 3", x.told(0, 9), 7);
        due("nothing at 3", x.chain(0, 3, ScoreThreads.NONE), 1);
        due("none at 3", x.told(0, 9), ScoreThreads.NONE);
        x.pure(1, true);
        for (int p = 0; p < 8; p++) {
            due("pure takes " + p, x.chain(1, 0, p), p <= 2 ? 1 : STORE);
        }
        due("what was refused changed nothing", x.told(1, 6), 2);
        due("index is ahead of store", x.chain(1, 4, 4), INDEX);
        due("pure takes nothing", x.chain(1, 0, ScoreThreads.NONE), 1);
        due("found index", x.found(2), 4);
        due("found store", x.found(4), 5);
        due("done without findings", x.about(6), 7);
    }

    private static void levels() {
        ScoreThreads x = studio();
        due("level of 8", x.level(8, -1), UNKNOWN);
        due("level NaN", x.level(0, 0x7fc00000), OUTSIDE);
        due("level -NaN", x.level(0, -1), OUTSIDE);
        due("level above 8", x.level(0, 0x41000001), OUTSIDE);
        due("level below 0", x.level(0, 0x80000001), OUTSIDE);
        due("level endless", x.level(0, 0x7f800000), OUTSIDE);
        due("level 8", x.level(0, 0x41000000), 1);
        due("is 8", x.told(0, 4), 0x41000000);
        due("level -0.0", x.level(0, 0x80000000), 1);
        due("is -0.0", x.told(0, 4), 0x80000000);
        due("level least", x.level(0, 1), 1);
        due("is least", x.told(0, 4), 1);
    }

    private static void ons() {
        ScoreThreads x = studio();
        due("on 8", x.on(8, true), UNKNOWN);
        due("on -1", x.on(-1, false), UNKNOWN);
        due("on", x.on(3, true), 1);
        due("is on", x.told(3, 0), 1);
        due("without a run", x.told(3, 20), 0);
        due("off", x.on(3, false), 1);
        due("is off", x.told(3, 0), 0);
    }

    private static void lines() {
        ScoreThreads x = studio();
        due("line of 8", x.line(8, 17), UNKNOWN);
        due("line of -1", x.line(-1, 1), UNKNOWN);
        due("17 samples", x.line(4, 17), OUTSIDE);
        due("17 samples of a gain", x.line(0, 17), OUTSIDE);
        due("line of a gain", x.line(0, -2), CAST);
        due("line of a table", x.line(7, 1), CAST);
        due("-2 samples", x.line(4, -2), SIZE);
        due("least samples", x.line(5, Integer.MIN_VALUE), SIZE);
        due("line stays", x.plugged(4, 4), 0);
        due("16 samples", x.line(4, 16), 1);
        due("has 16", x.plugged(4, 4), 16);
        due("bell's line", x.line(5, 3), 1);
        due("has 3", x.plugged(5, 4), 3);
        due("its tail is its own n's", x.plugged(5, 1), 3);
        due("0 samples", x.line(4, 0), 1);
        due("has 0", x.plugged(4, 4), 0);
        due("no line", x.line(4, ScoreThreads.NONE), 1);
        due("has none", x.plugged(4, 4), -11);
        due("found cast", x.found(3), 2);
        due("found size", x.found(5), 2);
    }

    /** A new LINE is 0.0 all through, from AT 0, even behind a RUN that filled the old one. */
    private static void queued() {
        ScoreThreads x = new ScoreThreads();
        x.clip(3, 8);
        for (int i = 0; i < 8; i++) {
            x.number(0, 3, i, Checks.bits(i + 1) & 0xffffffffL);
        }
        x.plug(4, Checks.bits(0.5), 3);
        x.track(0, 0, 0, false);
        x.chain(0, 0, 0);
        x.on(0, true);
        x.render(2);
        due("line in a run", x.line(0, 2), 0);
        due("line is queued", x.plugged(0, 4), 3);
        due("queue", x.about(5), 1);
        x.turn(0);
        x.turn(0);
        due("at before", x.plugged(0, 3), 2);
        due("mix", x.turn(0), 3);
        due("line is done", x.plugged(0, 4), 2);
        due("at after", x.plugged(0, 3), 0);
        due("line 0", x.plugged(0, 5), 0);
        due("line 1", x.plugged(0, 6), 0);
        due("queue is empty", x.about(5), 0);
        due("edits done", x.about(6), 4);
    }

    private static void queuedInOrder() {
        ScoreThreads x = studio();
        x.render(1);
        due("unknown in a run", x.track(0, 1, 0, false), UNKNOWN);
        due("track", x.track(0, 0, 3, true), 0);
        due("pure", x.pure(0, true), 0);
        due("not a gain", x.chain(0, 0, 3), 0);
        due("no place", x.chain(0, 7, 0), 0);
        due("gain", x.chain(0, 1, 0), 0);
        due("level outside", x.level(0, -1), OUTSIDE);
        due("level", x.level(0, 0x3f000000), 0);
        due("on", x.on(0, true), 0);
        due("on is queued", x.told(0, 0), 0);
        due("line outside", x.line(4, 17), OUTSIDE);
        due("line of a gain", x.line(0, 1), 0);
        due("line of less", x.line(4, -2), 0);
        due("nothing is found yet", x.found(2) + x.found(3) + x.found(4) + x.found(5), 0);
        due("queue", x.about(5), 9);
        due("end", x.turn(1), 4);
        int[] wanted = {1, 0, 3, 1, 0x3f000000, 1, -1, 0, -1, -1};
        for (int what = 0; what < wanted.length; what++) {
            due("told " + what, x.told(0, what), wanted[what]);
        }
        due("found index", x.found(2), 1);
        due("found cast", x.found(3), 1);
        due("found store", x.found(4), 1);
        due("found size", x.found(5), 1);
        due("done without findings", x.about(6), 5);
        due("it was on behind the block", x.out(0), 0);
        due("at once again", x.on(0, false), 1);
    }

    private static void fullQueue() {
        ScoreThreads x = studio();
        x.render(2);
        for (int e = 0; e < 30; e++) {
            due("edit " + e, x.on(e % 8, true), 0);
        }
        due("track", x.track(0, 0, 0, false), FULL);
        due("pure", x.pure(0, false), FULL);
        due("chain", x.chain(0, 9, 0), FULL);
        due("level", x.level(0, 0), FULL);
        due("on", x.on(0, false), FULL);
        due("line", x.line(0, 1), FULL);
        due("unknown is ahead of full", x.track(8, 0, 0, false), UNKNOWN);
        due("outside is ahead of full", x.level(0, -1), OUTSIDE);
        due("line outside is ahead of full", x.line(0, 17), OUTSIDE);
        due("nothing is found", x.found(2) + x.found(3), 0);
        due("queue", x.about(5), 30);
        due("mix", x.turn(0), 3);
        due("done", x.about(6), 30);
        due("room again", x.on(0, false), 0);
        due("queue again", x.about(5), 1);
    }

    private static void foundRefused() {
        ScoreThreads x = studio();
        due("found 0", x.found(0), OUTSIDE);
        due("found 7", x.found(7), OUTSIDE);
        due("found -1", x.found(-1), OUTSIDE);
        x.told(0, 10);
        x.told(0, 19);
        due("told's findings are answered", x.found(2), 2);
        x.plugged(0, 3);
        due("plugged's findings are answered", x.found(3), 1);
    }
}
