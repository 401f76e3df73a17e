import java.util.ArrayList;
import java.util.List;

/** The document told a second time, plainly, with all of Java's library: what ModelTest compares with. */
final class Model {
    private static final int NONE = -1, UNKNOWN = -101, OUTSIDE = -102, STATE = -103, FULL = -104;

    /** What a call or a STEP meets. */
    private static final class Finding extends RuntimeException {
        private static final long serialVersionUID = 1L;
        final int number;

        Finding(int number) {
            super(null, null, false, false);
            this.number = number;
        }
    }

    private static Finding nothing() {
        return new Finding(1);
    }

    private static Finding index() {
        return new Finding(2);
    }

    private static float clip8(float x) {
        return Math.max(-8.0f, Math.min(8.0f, x));
    }

    private static final class Row {
        int lane;
        Number[] numbers;

        float at(int i) {
            if (i < 0 || i >= numbers.length) {
                throw index();
            }
            double[] units = {128, 32768, 2147483648.0, 1, 1};
            return clip8((float) (numbers[i].doubleValue() / units[lane]));
        }
    }

    private abstract static class Unit {
        int kind;
        float a;
        int n;
        int uses;

        abstract float make(float x);

        int tail() {
            return 0;
        }
    }

    private static class Gain extends Unit {
        float make(float x) {
            return clip8(x * a);
        }
    }

    private static class Warm extends Gain {
        int tail() {
            return super.tail() + 1;
        }
    }

    private static final class Fold extends Warm {
        float make(float x) {
            return super.make(x) % 1.0f;
        }

        int tail() {
            return super.tail() + 2;
        }
    }

    private static final class Steps extends Unit {
        float make(float x) {
            if (n == 0) {
                throw new Finding(6);
            }
            float m = 64 / n;
            return clip8((float) Math.rint(x * m) / m);
        }
    }

    private static class Echo extends Unit {
        List<Float> line;
        int at;

        void renew(int count) {
            at = 0;
            line = count == NONE ? null : new ArrayList<>();
            for (int i = 0; i < count; i++) {
                line.add(0.0f);
            }
        }

        float make(float x) {
            if (line == null) {
                throw nothing();
            }
            if (line.isEmpty()) {
                throw index();
            }
            float y = clip8(x + a * line.get(at));
            line.set(at, y);
            at = (at + 1) % line.size();
            return y;
        }

        int tail() {
            return n;
        }
    }

    private static final class Bell extends Echo {
        float make(float x) {
            return Math.max(super.make(x), a);
        }

        int tail() {
            return super.tail() + 3;
        }
    }

    private static final class Gate extends Unit {
        float make(float x) {
            return Math.abs(x) >= Math.abs(a) ? x : Math.copySign(0.0f, x);
        }
    }

    private static final class Table extends Unit {
        Row row;

        float make(float x) {
            return row.at((int) ((x + 8) * 4));
        }
    }

    private static final class Strip {
        boolean on;
        int row = NONE;
        int start;
        boolean strict;
        int level = Float.floatToRawIntBits(1.0f);
        boolean pure;
        int[] places = {NONE, NONE, NONE, NONE};

        float[] samples = new float[8];
        String is = "";
        int gone;
        boolean loaded;
        List<int[]> failures = new ArrayList<>();
    }

    private final List<Row> rows = new ArrayList<>();
    private final List<Unit> units = new ArrayList<>();
    private final Strip[] strips = new Strip[8];
    private final List<int[]> edits = new ArrayList<>();
    private final List<int[]> faults = new ArrayList<>();
    private final List<Integer> sound = new ArrayList<>();
    private final Integer[] hands = new Integer[4];
    private final int[] met = new int[7];
    private int workers = 2, block, left, allFaults, done, steps, waits;
    private boolean running, stopping;

    Model() {
        for (int t = 0; t < 8; t++) {
            strips[t] = new Strip();
        }
    }

    private int met(int f) {
        met[f]++;
        return -10 - f;
    }

    int clip(int lane, int n) {
        if (lane < 0 || lane > 4 || n > 64) {
            return OUTSIDE;
        }
        if (rows.size() == 16) {
            return FULL;
        }
        if (n < 0) {
            return met(5);
        }
        Row row = new Row();
        row.lane = lane;
        row.numbers = new Number[n];
        java.util.Arrays.fill(row.numbers, 0);
        rows.add(row);
        return rows.size() - 1;
    }

    int number(int c, int lane, int i, long word) {
        if (c < 0 || c >= rows.size()) {
            return UNKNOWN;
        }
        if (lane < 0 || lane > 4) {
            return OUTSIDE;
        }
        Number[] readings = {(byte) word, (short) word, (int) word, Float.intBitsToFloat((int) word),
            Double.longBitsToDouble(word)};
        if (lane > 2 && Double.isNaN(readings[lane].doubleValue())) {
            return OUTSIDE;
        }
        if (running) {
            return STATE;
        }
        if (rows.get(c).lane != lane) {
            return met(3);
        }
        if (i < 0 || i >= rows.get(c).numbers.length) {
            return met(2);
        }
        rows.get(c).numbers[i] = readings[lane];
        return 0;
    }

    int sample(int c, int i) {
        if (c < 0 || c >= rows.size() || i < 0 || i >= rows.get(c).numbers.length) {
            return 0;
        }
        return Float.floatToIntBits(rows.get(c).at(i));
    }

    int plug(int kind, int bits, int n) {
        float a = Float.intBitsToFloat(bits);
        if (kind < 0 || kind > 7 || !(a >= -8.0f && a <= 8.0f)) {
            return OUTSIDE;
        }
        if (kind == 3 && Math.abs((long) n) > 64 || (kind == 4 || kind == 5) && n > 16
                || kind == 7 && (n < 0 || n >= rows.size())) {
            return OUTSIDE;
        }
        if (units.size() == 12) {
            return FULL;
        }
        if ((kind == 4 || kind == 5) && n < 0) {
            return met(5);
        }
        Unit[] made = {new Gain(), new Warm(), new Fold(), new Steps(), new Echo(), new Bell(), new Gate(), new Table()};
        Unit unit = made[kind];
        unit.kind = kind;
        unit.a = a;
        unit.n = n;
        if (unit instanceof Echo echo) {
            echo.renew(n);
        }
        if (unit instanceof Table table) {
            table.row = rows.get(n);
        }
        units.add(unit);
        return units.size() - 1;
    }

    int plugged(int p, int what) {
        if (p < 0 || p >= units.size()) {
            return UNKNOWN;
        }
        if (what < 0 || what > 20) {
            return OUTSIDE;
        }
        Unit unit = units.get(p);
        if (what < 3) {
            return what == 0 ? unit.kind : what == 1 ? unit.tail() : unit.uses;
        }
        if (!(unit instanceof Echo echo)) {
            return met(3);
        }
        if (what == 3) {
            return echo.at;
        }
        if (echo.line == null) {
            return met(1);
        }
        if (what == 4) {
            return echo.line.size();
        }
        return what - 5 < echo.line.size() ? Float.floatToIntBits(echo.line.get(what - 5)) : met(2);
    }

    private static boolean noTrack(int t) {
        return t < 0 || t > 7;
    }

    int track(int t, int clip, int start, boolean strict) {
        if (noTrack(t) || clip < NONE || clip >= rows.size()) {
            return UNKNOWN;
        }
        return edit(0, t, clip, start, strict ? 1 : 0);
    }

    int pure(int t, boolean is) {
        return noTrack(t) ? UNKNOWN : edit(1, t, is ? 1 : 0);
    }

    int chain(int t, int j, int p) {
        return noTrack(t) || p < NONE || p >= units.size() ? UNKNOWN : edit(2, t, j, p);
    }

    int level(int t, int bits) {
        if (noTrack(t)) {
            return UNKNOWN;
        }
        float level = Float.intBitsToFloat(bits);
        return level >= 0.0f && level <= 8.0f ? edit(3, t, bits) : OUTSIDE;
    }

    int on(int t, boolean is) {
        return noTrack(t) ? UNKNOWN : edit(4, t, is ? 1 : 0);
    }

    int line(int p, int n) {
        if (p < 0 || p >= units.size()) {
            return UNKNOWN;
        }
        return n > 16 ? OUTSIDE : edit(5, p, n);
    }

    private int edit(int... edit) {
        if (!running) {
            return carryOut(edit);
        }
        if (edits.size() == 30) {
            return FULL;
        }
        edits.add(edit);
        return 0;
    }

    private int carryOut(int[] edit) {
        try {
            change(edit);
        } catch (Finding finding) {
            return met(finding.number);
        }
        done++;
        return 1;
    }

    private void change(int[] edit) {
        if (edit[0] == 5) {
            changeLine(units.get(edit[1]), edit[2]);
            return;
        }
        Strip strip = strips[edit[1]];
        switch (edit[0]) {
            case 0 -> {
                strip.row = edit[2];
                strip.start = edit[3];
                strip.strict = edit[4] == 1;
            }
            case 1 -> {
                strip.places = new int[] {NONE, NONE, NONE, NONE};
                strip.pure = edit[2] == 1;
            }
            case 2 -> {
                if (edit[2] < 0 || edit[2] > 3) {
                    throw index();
                }
                if (edit[3] != NONE && strip.pure && !(units.get(edit[3]) instanceof Gain)) {
                    throw new Finding(4);
                }
                strip.places[edit[2]] = edit[3];
            }
            case 3 -> strip.level = edit[2];
            default -> strip.on = edit[2] == 1;
        }
    }

    private static void changeLine(Unit unit, int n) {
        if (!(unit instanceof Echo echo)) {
            throw new Finding(3);
        }
        if (n < -1) {
            throw new Finding(5);
        }
        echo.renew(n);
    }

    int hire(int n) {
        if (n < 1 || n > 4) {
            return OUTSIDE;
        }
        if (running) {
            return STATE;
        }
        int before = workers;
        workers = n;
        return before;
    }

    int render(int n) {
        if (n < 1 || n > 8) {
            return OUTSIDE;
        }
        if (running) {
            return STATE;
        }
        if (block + n > 64) {
            return FULL;
        }
        running = true;
        stopping = false;
        left = n;
        begin();
        return block;
    }

    private void begin() {
        for (Strip strip : strips) {
            strip.is = running && strip.on ? "open" : "";
            strip.gone = 0;
            strip.loaded = false;
            strip.failures.clear();
        }
    }

    int turn(int w) {
        if (w < 0 || w >= workers) {
            return UNKNOWN;
        }
        if (!running) {
            return STATE;
        }
        int answer = oneTurn(w);
        if (answer == 0) {
            waits++;
        } else {
            steps++;
        }
        return answer;
    }

    private int oneTurn(int w) {
        if (hands[w] != null) {
            return mayGo(hands[w]) ? step(w) : 0;
        }
        hands[w] = first("open");
        if (hands[w] != null) {
            return step(w);
        }
        for (Integer hand : hands) {
            if (hand != null) {
                return 0;
            }
        }
        hands[w] = first("failed");
        return hands[w] != null ? step(w) : mix();
    }

    private Integer first(String is) {
        for (int t = 0; t < 8; t++) {
            if (strips[t].is.equals(is)) {
                return t;
            }
        }
        return null;
    }

    /** The place of the first PLUG at which it has not been; 4: there is none. */
    private static int next(Strip strip) {
        int j = strip.gone;
        while (j < 4 && strip.places[j] == NONE) {
            j++;
        }
        return j;
    }

    private boolean mayGo(int t) {
        int p = strips[t].places[next(strips[t])];
        for (int u = 0; u < t; u++) {
            boolean over = List.of("done", "failed", "silent").contains(strips[u].is);
            for (int j = strips[u].gone; strips[u].on && !over && j < 4; j++) {
                if (strips[u].places[j] == p) {
                    return false;
                }
            }
        }
        return true;
    }

    private int step(int w) {
        Strip strip = strips[hands[w]];
        strip.is = "held";
        int place = strip.loaded ? next(strip) : -1;
        try {
            if (strip.loaded) {
                pass(strip, units.get(strip.places[place]));
            } else {
                load(strip);
            }
        } catch (Finding finding) {
            strip.failures.add(new int[] {hands[w], block, place, finding.number, strip.failures.size() + 1});
            strip.is = strip.failures.size() == 1 ? "failed" : "silent";
            hands[w] = null;
            return 2;
        }
        strip.loaded = true;
        strip.gone = place + 1;
        if (next(strip) == 4) {
            strip.is = "done";
            hands[w] = null;
        }
        return 1;
    }

    private void load(Strip strip) {
        if (strip.row == NONE) {
            throw nothing();
        }
        Row row = rows.get(strip.row);
        for (int i = 0; i < 8; i++) {
            int at = strip.start + 8 * block + i;
            boolean there = at >= 0 && at < row.numbers.length;
            strip.samples[i] = there || strip.strict ? row.at(at) : 0.0f;
        }
    }

    private static void pass(Strip strip, Unit unit) {
        float[] made = new float[8];
        for (int i = 0; i < 8; i++) {
            made[i] = unit.make(strip.samples[i]);
        }
        strip.samples = made;
        unit.uses++;
    }

    private float heard(int t, int i) {
        Strip strip = strips[t];
        float sample = strip.is.equals("silent") ? 0.0f : strip.samples[i];
        return strip.on ? clip8(sample * Float.intBitsToFloat(strip.level)) : 0.0f;
    }

    private float pair(int t, int i) {
        return clip8(heard(t, i) + heard(t + 1, i));
    }

    private int mix() {
        for (int i = 0; i < 8; i++) {
            float first = clip8(pair(0, i) + pair(2, i));
            float last = clip8(pair(4, i) + pair(6, i));
            sound.add(Float.floatToIntBits(clip8(first + last)));
        }
        for (Strip strip : strips) {
            for (int[] failure : strip.failures) {
                allFaults++;
                if (faults.size() < 100) {
                    faults.add(failure);
                }
            }
        }
        for (int[] edit : edits) {
            carryOut(edit);
        }
        edits.clear();
        block++;
        left--;
        running = left > 0 && !stopping;
        begin();
        return running ? 3 : 4;
    }

    int rounds(int w, int n) {
        if (w < 0 || w >= workers) {
            return UNKNOWN;
        }
        if (n < 0 || n > 200) {
            return OUTSIDE;
        }
        if (!running) {
            return STATE;
        }
        int taken = 0;
        for (; taken < n && running; taken++) {
            turn((w + taken) % workers);
        }
        return taken;
    }

    int stop() {
        if (!running) {
            return STATE;
        }
        int answer = stopping ? 0 : 1;
        stopping = true;
        return answer;
    }

    int out(int i) {
        return i < 0 || i >= sound.size() ? 0 : sound.get(i);
    }

    int told(int t, int what) {
        if (noTrack(t)) {
            return UNKNOWN;
        }
        if (what < 0 || what > 20) {
            return OUTSIDE;
        }
        Strip strip = strips[t];
        if (what == 20) {
            return List.of("", "open", "held", "done", "failed", "silent").indexOf(strip.is);
        }
        if (what > 9) {
            return met(2);
        }
        int[] facts = {strip.on ? 1 : 0, strip.row, strip.start, strip.strict ? 1 : 0, strip.level, strip.pure ? 1 : 0,
            strip.places[0], strip.places[1], strip.places[2], strip.places[3]};
        return facts[what];
    }

    int worker(int w) {
        if (w < 0 || w >= workers) {
            return UNKNOWN;
        }
        return hands[w] == null ? NONE : hands[w];
    }

    int fault(int i, int what) {
        if (what < 0 || what > 4) {
            return OUTSIDE;
        }
        return i < 0 || i >= faults.size() ? NONE : faults.get(i)[what];
    }

    int found(int f) {
        return f < 1 || f > 6 ? OUTSIDE : met[f];
    }

    int about(int what) {
        int[] counts = {rows.size(), units.size(), workers, block, allFaults, edits.size(), done, running ? 1 : 0,
            running ? left : 0, steps, waits};
        return what < 0 || what >= counts.length ? OUTSIDE : counts[what];
    }

    long digest() {
        List<Integer> all = new ArrayList<>(sound);
        for (Unit unit : units) {
            all.add(unit.uses);
            if (unit instanceof Echo echo) {
                all.add(echo.at);
                all.add(echo.line == null ? -1 : echo.line.size());
                for (int i = 0; echo.line != null && i < echo.line.size(); i++) {
                    all.add(Float.floatToIntBits(echo.line.get(i)));
                }
            }
        }
        for (int t = 0; t < 8; t++) {
            for (int what = 0; what <= 9; what++) {
                all.add(told(t, what));
            }
        }
        for (int[] fault : faults) {
            for (int fact : fault) {
                all.add(fact);
            }
        }
        all.add(done);
        long h = 17;
        for (int number : all) {
            h = 31 * h + number;
        }
        return h;
    }
}
