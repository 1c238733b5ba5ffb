import java.util.Arrays;
import java.util.function.LongSupplier;

/** Compares answers with those that are due, prints the others, and ends the test. */
final class Due {
    static final Class<IllegalArgumentException> ARGUMENT = IllegalArgumentException.class;
    static final Class<IllegalStateException> STATE = IllegalStateException.class;
    static final Class<IndexOutOfBoundsException> INDEX = IndexOutOfBoundsException.class;
    static final Class<java.util.NoSuchElementException> ELEMENT = java.util.NoSuchElementException.class;

    static final int PUT = 0;
    static final int INSERT = 1;
    static final int UPDATE = 2;
    static final int ADD = 3;
    static final int DELETE = 4;

    /** Ints at and far beyond the edges of keys, days and times. */
    static final int[] FAR = {Integer.MIN_VALUE, Integer.MIN_VALUE + 1, -33, -32, -1, 40, 64, 1 << 30,
        Integer.MAX_VALUE};

    private int wrong = 0;
    private String sentence = "";

    /** The sentence of the document that the following calls look at; what is not as due is told with it. */
    void sentence(String where, String quoted) {
        sentence = where + " \"" + quoted + "\": ";
    }

    void is(String call, long want, long got) {
        if (got != want) {
            wrong++;
            System.out.println(sentence + call + " answered " + got + ", due is " + want);
        }
    }

    void is(String call, boolean want, boolean got) {
        is(call, want ? 1 : 0, got ? 1 : 0);
    }

    void fails(String call, Class<? extends RuntimeException> want, LongSupplier made) {
        String got;
        try {
            got = "answered " + made.getAsLong();
        } catch (RuntimeException e) {
            if (e.getClass() == want) {
                return;
            }
            got = "threw " + e.getClass().getName();
        }
        wrong++;
        System.out.println(sentence + call + " " + got + ", due is " + want.getName());
    }

    /** Ints that are not 0 .. bound - 1: those beside the edges, and those far off. */
    static int[] outside(int bound) {
        int[] out = Arrays.copyOf(FAR, FAR.length + 2);
        out[FAR.length] = bound;
        out[FAR.length + 1] = bound + 1;
        return out;
    }

    /** Ticks until the clock shows the time. */
    static void tickTo(TwoTimesTable table, int time) {
        while (table.clock() < time) {
            table.tick();
        }
    }

    /** Makes 32 runs of one day each, with the values 1 and 2 in turn, in 17 calls. */
    static void fillWithSingleDays(TwoTimesTable table, int key) {
        table.state(PUT, key, 1, 0, 32);
        for (int day = 1; day < 32; day += 2) {
            table.state(PUT, key, 2, day, day + 1);
        }
    }

    /** Makes 128 rows, all of key 0, 32 a time, and ticks once more; leaves the clock at 4. */
    static TwoTimesTable with128Rows() {
        TwoTimesTable table = new TwoTimesTable();
        fillWithSingleDays(table, 0);
        for (int time = 1; time <= 3; time++) {
            table.tick();
            table.state(ADD, 0, 1, 0, 32);
        }
        table.tick();
        return table;
    }

    /** Makes 150 rows: 4 a time up to time 36, one a key over all days, and at time 37 those of the keys 0 and 1. */
    static TwoTimesTable with150Rows() {
        TwoTimesTable table = new TwoTimesTable();
        for (int time = 0; time <= 37; time++) {
            tickTo(table, time);
            for (int key = 0; key < (time == 37 ? 2 : 4); key++) {
                table.state(PUT, key, time, 0, 32);
            }
        }
        return table;
    }

    void end(String test) {
        System.out.println(test + (wrong == 0 ? ": all answers are as due" : ": " + wrong + " answers are not as due"));
        if (wrong != 0) {
            System.exit(1);
        }
    }
}
