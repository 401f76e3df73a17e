import java.util.ArrayList;
import java.util.List;
import java.util.Random;

/**
 * "Whatever the turns, the samples are the same": studios rendered by many orders of turns and by 1 to 4 WORKERS, with
 * PLUGS that TRACKS share, with what fails and with queued EDITS. What is due is what Model has by one WORKER.
 */
public final class TurnsTest {
    private static final int NONE = ScoreThreads.NONE;
    private static final int WAITED = 0, MIXED = 3, ENDED = 4;
    private static final int ECHO = 0, BELL = 1, GAIN = 2, FOLD = 3, STEPS = 4, ZERO_STEPS = 5, NO_SAMPLES = 6,
            LADDER = 7, GATE = 8, SHORT_TABLE = 9, OTHER_ECHO = 10, WARM = 11;
    private static final Checks checks = new Checks();

    public static void main(String[] args) {
        Plan plan = handMade();
        shareFailAndAreEdited(plan);
        byHandMadeOrders(plan);
        byChance(plan);
        byRounds(plan);
        studiosByChance();
        allOrdersOfThreeTracks();
        checks.finish();
    }

    private static int bits(double x) {
        return Checks.bits(x);
    }

    // ---- plans: the calls that make a studio, and the EDITS that are told in each BLOCK of its RUN

    private record Plan(List<Object[]> made, List<List<Object[]>> edits) {
    }

    private static Object[] call(Object... nameAndNumbers) {
        return nameAndNumbers;
    }

    private static Plan handMade() {
        List<Object[]> made = new ArrayList<>();
        made.add(call("clip", 3, 20));
        made.add(call("clip", 0, 5));
        made.add(call("clip", 2, 64));
        for (int i = 0; i < 20; i++) {
            made.add(call("number", 0, 3, i, (long) bits((i * 7 % 20 - 9) / 5.0)));
        }
        for (int i = 31; i < 34; i++) {
            made.add(call("number", 2, 2, i, (long) (i - 30) << 28));
        }
        made.addAll(plugs());
        made.addAll(tracks());
        return new Plan(made, edits());
    }

    private static List<Object[]> plugs() {
        return List.of(call("plug", 4, bits(0.5), 3), call("plug", 5, bits(-0.75), 5), call("plug", 0, bits(1.5), 0),
                call("plug", 2, bits(3), 0), call("plug", 3, 0, 7), call("plug", 3, 0, 0), call("plug", 4, bits(1), 0),
                call("plug", 7, 0, 2), call("plug", 6, bits(0.25), 0), call("plug", 7, 0, 1),
                call("plug", 4, bits(0.25), 2), call("plug", 1, bits(-1), 0));
    }

    private static List<Object[]> tracks() {
        int[] starts = {0, -4, 3, 0, 8, 2, 1, 5};
        int[][] chains = {{ECHO, GAIN, BELL, ECHO}, {BELL, NONE, ECHO, LADDER}, {ECHO, OTHER_ECHO, FOLD, NONE},
            {ECHO, NONE, NONE, GATE}, {GATE, ZERO_STEPS, ECHO, BELL}, {OTHER_ECHO, ECHO, STEPS, OTHER_ECHO},
            {ECHO, NO_SAMPLES, BELL, NONE}, {BELL, ECHO, OTHER_ECHO, WARM}};
        List<Object[]> calls = new ArrayList<>();
        for (int t = 0; t < 8; t++) {
            calls.add(call("track", t, t == 3 ? NONE : 0, starts[t], t == 2));
            calls.add(call("on", t, true));
            for (int j = 0; j < 4; j++) {
                if (chains[t][j] != NONE) {
                    calls.add(call("chain", t, j, chains[t][j]));
                }
            }
        }
        return calls;
    }

    private static List<List<Object[]>> edits() {
        return List.of(
                List.of(call("line", OTHER_ECHO, NONE), call("chain", 4, 1, NONE), call("track", 3, 0, 6, true),
                        call("level", 1, bits(0.5)), call("chain", 7, 1, SHORT_TABLE), call("pure", 6, true),
                        call("chain", 6, 0, ECHO), call("chain", 6, 1, FOLD), call("chain", 5, 4, GAIN),
                        call("line", GAIN, 3), call("line", ECHO, -2)),
                List.of(call("line", OTHER_ECHO, 4), call("on", 7, false), call("chain", 0, 3, OTHER_ECHO),
                        call("on", 1, false), call("pure", 6, false), call("chain", 6, 2, BELL)),
                List.of(call("level", 0, bits(2)), call("chain", 3, 0, NONE), call("line", ECHO, 5)));
    }

    private static Plan byChance(Random chance) {
        List<Object[]> made = new ArrayList<>();
        made.add(call("clip", 3, 30));
        made.add(call("clip", 0, 3));
        for (int i = 0; i < 30; i++) {
            made.add(call("number", 0, 3, i, (long) bits(chance.nextFloat() * 4 - 2)));
        }
        for (int kind = 0; kind < 8; kind++) {
            int n = kind == 7 ? chance.nextInt(2) : chance.nextInt(5);
            made.add(call("plug", kind, bits(chance.nextFloat() * 2 - 1), n));
        }
        for (int t = 0; t < 8; t++) {
            made.add(call("track", t, chance.nextInt(6) == 0 ? NONE : 0, chance.nextInt(20), chance.nextInt(3) == 0));
            made.add(call("on", t, chance.nextInt(4) != 0));
            for (int j = 0; j < 4; j++) {
                made.add(call("chain", t, j, chance.nextInt(4) == 0 ? NONE : chance.nextInt(8)));
            }
        }
        List<List<Object[]>> edits = new ArrayList<>();
        for (int block = 0; block < 3; block++) {
            edits.add(editsByChance(chance));
        }
        return new Plan(made, edits);
    }

    private static List<Object[]> editsByChance(Random chance) {
        List<Object[]> edits = new ArrayList<>();
        for (int e = chance.nextInt(8); e > 0; e--) {
            int t = chance.nextInt(8);
            edits.add(switch (chance.nextInt(6)) {
                case 0 -> call("track", t, chance.nextInt(2) - 1, chance.nextInt(20), chance.nextBoolean());
                case 1 -> call("pure", t, chance.nextBoolean());
                case 2 -> call("chain", t, chance.nextInt(5), chance.nextInt(9) - 1);
                case 3 -> call("level", t, bits(chance.nextFloat() * 3));
                case 4 -> call("on", t, chance.nextBoolean());
                default -> call("line", t, chance.nextInt(6) - 2);
            });
        }
        return edits;
    }

    // ---- orders of turns

    private interface Order {
        /** The WORKER of the next turn, by whose turn was last and what it answered. */
        int next(int workers, int last, int answer);
    }

    private static final Order FORWARD = (workers, last, answer) -> (last + 1) % workers;
    private static final Order BACKWARD = (workers, last, answer) -> (last + workers - 1) % workers;
    private static final Order TO_AND_FRO = (workers, last, answer) -> answer == WAITED ? (last + 1) % workers
            : workers - 1 - last;
    private static final Order AS_LONG_AS_IT_CAN = (workers, last, answer) -> answer == WAITED ? (last + 1) % workers
            : last;
    private static final Order AS_LONG_AS_IT_CAN_BACKWARD = (workers, last, answer) -> answer == WAITED
            ? (last + workers - 1) % workers : last;
    private static final Order THE_LAST_ALONE = (workers, last, answer) -> workers - 1;

    private static Order random(Random chance) {
        return (workers, last, answer) -> chance.nextInt(workers);
    }

    // ---- rendering

    /** What is ready to be rendered by so many WORKERS. */
    private static Desk begun(Object studio, Plan plan, int workers) {
        Desk desk = new Desk(studio);
        for (Object[] call : plan.made) {
            desk.tell(call);
        }
        desk.tell("hire", workers);
        desk.tell("render", plan.edits.size());
        return desk;
    }

    /** The whole RUN, turn by turn; of a BLOCK's EDITS each is told some turns behind the one ahead of it. */
    private static Desk rendered(Object studio, Plan plan, int workers, Order order, int turnsPerEdit) {
        Desk desk = begun(studio, plan, workers);
        int last = 0;
        int answer = 1;
        int told = 0;
        int block = 0;
        for (int turns = 0; answer != ENDED && desk.calls() < 320; turns++) {
            told = tellEdits(desk, plan, block, told, turnsPerEdit == 0 ? 99 : turns / turnsPerEdit + 1);
            last = order.next(workers, last, answer);
            answer = (int) desk.tell("turn", last);
            if (answer >= MIXED) {
                // an EDIT that came too late would be another plan
                checks.due("edits told in block " + block, told, plan.edits.get(block).size());
                block++;
                told = 0;
                turns = -1;
            }
        }
        if (answer != ENDED) {
            finish(desk, plan, told, 16);
        }
        return desk;
    }

    private static int tellEdits(Desk desk, Plan plan, int block, int told, int upTo) {
        List<Object[]> edits = plan.edits.get(block);
        int next = told;
        for (; next < edits.size() && next < upTo; next++) {
            desk.tell(edits.get(next));
        }
        return next;
    }

    /** The rest of the RUN by rounds(): an object has 512 calls, and some orders wait often. */
    private static void finish(Desk desk, Plan plan, int told, int turns) {
        int block = (int) desk.tell("about", 3);
        int next = told;
        for (int i = 0; i < 200 && desk.tell("about", 7) == 1; i++) {
            if (block != desk.tell("about", 3)) {
                block++;
                next = 0;
            }
            next = tellEdits(desk, plan, block, next, 99);
            desk.tell("rounds", i % (int) desk.tell("about", 2), turns);
        }
    }

    private static List<Long> facts(Desk desk) {
        List<Long> facts = new ArrayList<>();
        for (int i = 0; i < 24; i++) {
            facts.add(desk.tell("out", i));
        }
        facts.add(desk.tell("digest"));
        for (int what : new int[] {3, 4, 6, 7, 9}) {
            facts.add(desk.tell("about", what));
        }
        for (int f = 1; f <= 6; f++) {
            facts.add(desk.tell("found", f));
        }
        return facts;
    }

    private static List<Long> due(Plan plan) {
        return facts(rendered(new Model(), plan, 1, THE_LAST_ALONE, 0));
    }

    private static void same(String name, Desk desk, List<Long> due) {
        List<Long> facts = facts(desk);
        checks.due(name + ": not too many calls", Math.max(desk.calls(), 512), 512);
        for (int i = 0; i < due.size(); i++) {
            checks.due(name + ": fact " + i, facts.get(i), due.get(i));
        }
    }

    // ---- the tests

    /** What is compared below must have what the sentence speaks of. */
    private static void shareFailAndAreEdited(Plan plan) {
        Desk desk = rendered(new ScoreThreads(), plan, 4, FORWARD, 1);
        boolean[] met = new boolean[7];
        boolean loads = false;
        for (int i = 0; desk.tell("fault", i, 0) != NONE; i++) {
            met[(int) desk.tell("fault", i, 3)] = true;
            loads |= desk.tell("fault", i, 2) == NONE;
        }
        checks.due("null, index and zero were met", met[1] && met[2] && met[6] ? 1 : 0, 1);
        checks.due("some as they were loaded", loads ? 1 : 0, 1);
        checks.due("some waited", desk.tell("about", 10) > 0 ? 1 : 0, 1);
        checks.due("16 edits were done", desk.tell("about", 6) - madeAtOnce(plan), 16);
        checks.due("index, of an edit", desk.tell("found", 2), 1);
        checks.due("cast, of an edit", desk.tell("found", 3), 1);
        checks.due("size, of an edit", desk.tell("found", 5), 1);
        checks.due("one is heard", desk.tell("out", 0) != 0 && desk.tell("out", 23) != 0 ? 1 : 0, 1);
    }

    private static int madeAtOnce(Plan plan) {
        int edits = 0;
        for (Object[] call : plan.made) {
            edits += List.of("track", "chain", "on").contains(call[0]) ? 1 : 0;
        }
        return edits;
    }

    private static void byHandMadeOrders(Plan plan) {
        Order[] orders = {FORWARD, BACKWARD, TO_AND_FRO, AS_LONG_AS_IT_CAN, AS_LONG_AS_IT_CAN_BACKWARD};
        List<Long> due = due(plan);
        for (int workers = 1; workers <= 4; workers++) {
            for (int order = 0; order < orders.length; order++) {
                for (int turnsPerEdit = 0; turnsPerEdit <= 2; turnsPerEdit++) {
                    String name = workers + " workers, order " + order + ", edits by " + turnsPerEdit;
                    same(name, rendered(new ScoreThreads(), plan, workers, orders[order], turnsPerEdit), due);
                }
            }
            same("the last of " + workers, rendered(new ScoreThreads(), plan, workers, THE_LAST_ALONE, 1), due);
        }
    }

    private static void byChance(Plan plan) {
        List<Long> due = due(plan);
        for (int seed = 0; seed < 800; seed++) {
            Order order = random(new Random(seed));
            int workers = 1 + seed % 4;
            same("seed " + seed, rendered(new ScoreThreads(), plan, workers, order, seed % 3), due);
        }
    }

    private static void byRounds(Plan plan) {
        List<Long> due = due(plan);
        for (int workers = 1; workers <= 4; workers++) {
            for (int turns = 3; turns <= 20; turns++) {
                Desk desk = begun(new ScoreThreads(), plan, workers);
                finish(desk, plan, 0, turns);
                same(workers + " workers, rounds of " + turns, desk, due);
            }
        }
    }

    private static void studiosByChance() {
        for (int studio = 0; studio < 200; studio++) {
            Plan plan = byChance(new Random(studio));
            List<Long> due = due(plan);
            for (int seed = 0; seed < 12; seed++) {
                Order order = random(new Random(1000L * studio + seed));
                String name = "studio " + studio + ", seed " + seed;
                same(name, rendered(new ScoreThreads(), plan, 1 + seed % 4, order, 0), due);
            }
        }
    }

    // ---- all orders

    /**
     * TRACK 0 goes twice through an ECHO, TRACK 1 once and then fails, TRACK 2 once: two or three WORKERS render a BLOCK
     * by every order of turns that there is. What is due is reckoned here, TRACK by TRACK.
     */
    private static void allOrdersOfThreeTracks() {
        int[] due = reckoned();
        int orders = 0;
        for (int workers = 1; workers <= 3; workers++) {
            orders += allOrders(workers, new ArrayList<>(), due);
        }
        checks.due("many orders", orders > 1000 ? 1 : 0, 1);
    }

    private static float number(int i) {
        return (i * 5 % 16 - 8) / 4.0f;
    }

    private static int[] reckoned() {
        float[] line = new float[3];
        int at = 0;
        float[][] tracks = new float[3][8];
        int[] times = {2, 1, 1};
        for (int t = 0; t < 3; t++) {
            for (int i = 0; i < 8; i++) {
                tracks[t][i] = number(t + i);
            }
            for (int i = 0; i < 8 * times[t]; i++) {
                line[at] = tracks[t][i % 8] + 0.5f * line[at];
                tracks[t][i % 8] = line[at];
                at = (at + 1) % 3;
            }
        }
        int[] due = new int[8];
        for (int i = 0; i < 8; i++) {
            due[i] = Float.floatToRawIntBits(tracks[0][i] + tracks[2][i]);
        }
        return due;
    }

    private static ScoreThreads threeTracks(int workers) {
        ScoreThreads x = new ScoreThreads();
        x.clip(3, 10);
        for (int i = 0; i < 10; i++) {
            x.number(0, 3, i, Float.floatToRawIntBits(number(i)));
        }
        x.plug(4, bits(0.5), 3);
        x.plug(3, 0, 0);
        int[][] chains = {{0, 0}, {0, 1}, {NONE, 0}};
        for (int t = 0; t < 3; t++) {
            x.track(t, 0, t, true);
            x.chain(t, 0, chains[t][0]);
            x.chain(t, 1, chains[t][1]);
            x.on(t, true);
        }
        x.hire(workers);
        x.render(1);
        x.line(0, 1);
        return x;
    }

    private static ScoreThreads played(int workers, List<Integer> turns) {
        ScoreThreads x = threeTracks(workers);
        for (int w : turns) {
            x.turn(w);
        }
        return x;
    }

    /** How many orders there are behind these turns, by turns that do not wait; those that wait change nothing. */
    private static int allOrders(int workers, List<Integer> turns, int[] due) {
        int orders = 0;
        for (int w = 0; w < workers; w++) {
            ScoreThreads x = played(workers, turns);
            long before = x.digest();
            int had = x.worker(w);
            int answer = x.turn(w);
            String name = workers + " workers, turns " + turns + " and " + w;
            if (answer == ENDED) {
                dueBehind(name, x, due);
                orders++;
            } else if (answer == WAITED) {
                checks.due(name + " waits: digest", x.digest(), before);
                checks.due(name + " waits: has", x.worker(w), had);
            } else if (turns.size() < 20) {
                turns.add(w);
                orders += allOrders(workers, turns, due);
                turns.remove(turns.size() - 1);
            }
        }
        return orders;
    }

    private static void dueBehind(String name, ScoreThreads x, int[] due) {
        for (int i = 0; i < 8; i++) {
            checks.due(name + ": out " + i, x.out(i), due[i]);
        }
        checks.due(name + ": steps", x.about(9), 10);
        checks.due(name + ": times through the echo", x.plugged(0, 2), 4);
        checks.due(name + ": faults", x.about(4), 2);
        checks.due(name + ": of track 1", x.fault(1, 0), 1);
        checks.due(name + ": at place 1", x.fault(1, 2), 1);
        checks.due(name + ": the line is new behind the block", x.plugged(0, 4), 1);
    }
}
