import java.util.Map;
import java.util.Random;
import java.util.TreeMap;
import java.util.function.LongSupplier;

/** All promises: runs of calls drawn with fixed seeds, every answer compared with NaiveTable's. */
public final class ModelTest {
    private static final int RUNS = 400;
    private static final int CALLS = 512;

    private static final Map<String, Integer> outcomes = new TreeMap<>();
    private static int wrong = 0;

    private final Random random;
    private final TwoTimesTable table = new TwoTimesTable();
    private final NaiveTable naive = new NaiveTable();
    private final int seed;
    private final int tickShare;
    private final int valueRange;
    private final int keyRange;
    private final int longest;
    private final int wrongShare;

    private ModelTest(int seed) {
        this.seed = seed;
        random = new Random(seed);
        tickShare = new int[] {1, 3, 8}[seed % 3];
        valueRange = new int[] {2, 3, 40}[seed / 3 % 3];
        keyRange = new int[] {1, 2, 4}[seed / 9 % 3];
        longest = new int[] {2, 8, 32}[seed / 27 % 3];
        wrongShare = seed % 2 == 0 ? 0 : 4;
    }

    public static void main(String[] args) {
        for (int seed = 0; seed < RUNS && wrong < 20; seed++) {
            ModelTest run = new ModelTest(seed);
            for (int call = 0; call < CALLS && wrong < 20; call++) {
                run.anyCall();
            }
        }
        needOutcomes();
        System.out.println(wrong == 0 ? "ModelTest: all answers are as due" : "ModelTest: some answers are wrong");
        if (wrong != 0) {
            System.exit(1);
        }
    }

    /** The draws must reach every way in which a call can end, or the comparison says little. */
    private static void needOutcomes() {
        String[] needed = {"tick ok", "tick IllegalStateException", "state ok", "state IllegalArgumentException",
            "state NoSuchElementException", "state IllegalStateException", "queue ok", "commit ok",
            "commit IllegalArgumentException", "commit NoSuchElementException", "commit IllegalStateException",
            "failed ok", "value ok", "value NoSuchElementException", "value IllegalArgumentException", "has ok",
            "sum ok", "runs ok", "run ok", "run IndexOutOfBoundsException", "rows ok", "rows full", "row ok",
            "row IndexOutOfBoundsException", "row IllegalArgumentException", "changes ok", "relation ok", "join ok"};
        for (String outcome : needed) {
            if (!outcomes.containsKey(outcome)) {
                wrong++;
                System.out.println("never seen: " + outcome);
            }
        }
    }

    private int within(int bound) {
        if (random.nextInt(100) < wrongShare) {
            int[] odd = {-1, bound, bound + 1, Integer.MIN_VALUE, Integer.MAX_VALUE};
            return odd[random.nextInt(odd.length)];
        }
        return random.nextInt(bound);
    }

    private int key() {
        int key = within(4);
        return key >= 0 && key < 4 ? key % keyRange : key;
    }

    private int time() {
        return random.nextInt(2) == 0 ? naive.clock() : within(naive.clock() + 1);
    }

    private int drawnValue() {
        return random.nextInt(50) == 0 ? random.nextInt() : random.nextInt(valueRange) - valueRange / 2;
    }

    private int[] period() {
        int from = random.nextInt(32);
        int to = Math.min(32, from + 1 + random.nextInt(longest));
        if (random.nextInt(100) < wrongShare) {
            return new int[] {within(32), within(33)};
        }
        return new int[] {from, to};
    }

    private void anyCall() {
        int draw = random.nextInt(100);
        if (draw < tickShare) {
            compare("tick", table::tick, naive::tick);
        } else if (draw < 50) {
            statement();
        } else if (draw < 55) {
            compare("commit", table::commit, naive::commit);
        } else {
            question();
        }
    }

    private void statement() {
        int kind = random.nextInt(3) == 0 ? Due.PUT : within(5);
        int key = key();
        int value = drawnValue();
        int[] p = period();
        if (random.nextInt(4) == 0) {
            compare("queue", () -> table.queue(kind, key, value, p[0], p[1]) ? 1 : 0,
                () -> naive.queue(kind, key, value, p[0], p[1]) ? 1 : 0);
        } else {
            compare("state", () -> table.state(kind, key, value, p[0], p[1]),
                () -> naive.state(kind, key, value, p[0], p[1]));
        }
    }

    private void question() {
        int key = key();
        int other = key();
        int day = within(32);
        int time = time();
        int[] p = period();
        int[] q = period();
        int k = random.nextInt(4) - 1 + random.nextInt(8);
        int r = within(13);
        switch (random.nextInt(12)) {
            case 0 -> compare("clock", table::clock, naive::clock);
            case 1 -> compare("failed", table::failed, naive::failed);
            case 2 -> compare("value", () -> table.value(key, day, time), () -> naive.value(key, day, time));
            case 3 -> compare("has", () -> table.has(key, day, time) ? 1 : 0,
                () -> naive.has(key, day, time) ? 1 : 0);
            case 4 -> compare("sum", () -> table.sum(key, p[0], p[1], time), () -> naive.sum(key, p[0], p[1], time));
            case 5 -> compare("runs", () -> table.runs(key, time), () -> naive.runs(key, time));
            case 6 -> {
                int part = within(3);
                compare("run", () -> table.run(key, time, k, part), () -> naive.run(key, time, k, part));
            }
            case 7 -> compare("rows", table::rows, naive::rows);
            case 8 -> {
                int row = random.nextInt(naive.rows() + 3) - 1;
                int part = within(6);
                compare("row", () -> table.row(row, part), () -> naive.row(row, part));
            }
            case 9 -> compare("changes", () -> table.changes(key, day), () -> naive.changes(key, day));
            case 10 -> compare("relation", () -> table.relation(p[0], p[1], q[0], q[1]),
                () -> naive.relation(p[0], p[1], q[0], q[1]));
            default -> compare("join", () -> table.join(key, other, time, r), () -> naive.join(key, other, time, r));
        }
    }

    private void compare(String call, LongSupplier made, LongSupplier wanted) {
        String want = outcome(wanted);
        String got = outcome(made);
        if (!want.equals(got)) {
            wrong++;
            System.out.println("seed " + seed + ": " + call + " gave " + got + ", due is " + want);
        }
        boolean full = call.equals("rows") && want.equals("150");
        boolean thrown = want.endsWith("Exception");
        outcomes.merge(call + (full ? " full" : thrown ? " " + want : " ok"), 1, Integer::sum);
    }

    private static String outcome(LongSupplier call) {
        try {
            return Long.toString(call.getAsLong());
        } catch (RuntimeException e) {
            return e.getClass().getSimpleName();
        }
    }
}
