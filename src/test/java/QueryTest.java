/** Promises 8 to 10 and 15: value, has, sum, changes. */
public final class QueryTest {
    private static final Due due = new Due();

    public static void main(String[] args) {
        valueAndHas();
        valueAndHasOnWrongInputs();
        sum();
        sumOnWrongInputs();
        changes();
        changesOnWrongInputs();
        due.end("QueryTest");
    }

    private static TwoTimesTable sample() {
        TwoTimesTable table = new TwoTimesTable();
        table.state(Due.PUT, 3, 7, 0, 4);
        table.state(Due.PUT, 3, -1, 31, 32);
        table.tick();
        table.state(Due.PUT, 3, 0, 2, 6);
        table.tick();
        table.state(Due.DELETE, 3, 0, 0, 3);
        return table;
    }

    private static void valueAndHas() {
        TwoTimesTable table = sample();
        long[] wantAt0 = {7, 7, 7, 7, 99, 99, 99};
        long[] wantAt1 = {7, 7, 0, 0, 0, 0, 99};
        long[] wantAt2 = {99, 99, 99, 0, 0, 0, 99};
        long[][] want = {wantAt0, wantAt1, wantAt2};
        for (int time = 0; time <= 2; time++) {
            for (int day = 0; day < 7; day++) {
                int atTime = time;
                int onDay = day;
                boolean there = want[time][day] != 99;
                due.is("has " + day + " at " + time, there, table.has(3, day, time));
                if (there) {
                    due.is("value " + day + " at " + time, want[time][day], table.value(3, day, time));
                } else {
                    due.fails("value " + day, Due.ELEMENT, () -> table.value(3, onDay, atTime));
                }
            }
            due.is("value 31", -1, table.value(3, 31, time));
            due.is("has of another key", false, table.has(2, 0, time));
        }
    }

    private static void valueAndHasOnWrongInputs() {
        TwoTimesTable table = sample();
        table.state(Due.PUT, 0, 1, 0, 32);
        for (int far : Due.FAR) {
            due.fails("value key", Due.ARGUMENT, () -> table.value(far, 0, 2));
            due.fails("value day", Due.ARGUMENT, () -> table.value(0, far, 2));
            due.fails("value time", Due.ARGUMENT, () -> table.value(0, 0, far));
            due.is("has key", false, table.has(far, 0, 2));
            due.is("has day", false, table.has(0, far, 2));
            due.is("has time", false, table.has(0, 0, far));
        }
        due.fails("value key 4", Due.ARGUMENT, () -> table.value(4, 0, 2));
        due.fails("value day 32", Due.ARGUMENT, () -> table.value(0, 32, 2));
        due.fails("value time 3", Due.ARGUMENT, () -> table.value(0, 0, 3));
        due.is("has key 4", false, table.has(4, 0, 2));
        due.is("has day 32", false, table.has(0, 32, 2));
        due.is("has time 3", false, table.has(0, 0, 3));
        table.tick();
        due.is("has time 3 now", true, table.has(0, 0, 3));
        due.is("value time 3 now", 1, table.value(0, 31, 3));
    }

    private static void sum() {
        TwoTimesTable table = sample();
        due.is("sum at 0", 27, table.sum(3, 0, 32, 0));
        due.is("sum at 1", 13, table.sum(3, 0, 32, 1));
        due.is("sum at 2", -1, table.sum(3, 0, 32, 2));
        due.is("a part", 14, table.sum(3, 2, 31, 0));
        due.is("one day", -1, table.sum(3, 31, 32, 0));
        due.is("nothing", 0, table.sum(3, 6, 31, 0));
        due.is("another key", 0, table.sum(0, 0, 32, 0));
        table.state(Due.PUT, 1, Integer.MAX_VALUE, 0, 32);
        table.state(Due.PUT, 2, Integer.MIN_VALUE, 0, 32);
        due.is("a long", 32L * Integer.MAX_VALUE, table.sum(1, 0, 32, 2));
        due.is("a long below 0", 32L * Integer.MIN_VALUE, table.sum(2, 0, 32, 2));
    }

    private static void sumOnWrongInputs() {
        TwoTimesTable table = sample();
        for (int far : Due.FAR) {
            due.fails("sum key", Due.ARGUMENT, () -> table.sum(far, 0, 1, 2));
            due.fails("sum from", Due.ARGUMENT, () -> table.sum(3, far, 32, 2));
            due.fails("sum to", Due.ARGUMENT, () -> table.sum(3, 0, far, 2));
            due.fails("sum time", Due.ARGUMENT, () -> table.sum(3, 0, 1, far));
        }
        due.fails("sum key 4", Due.ARGUMENT, () -> table.sum(4, 0, 1, 2));
        due.fails("sum 0, 33", Due.ARGUMENT, () -> table.sum(3, 0, 33, 2));
        due.fails("sum 0, 0", Due.ARGUMENT, () -> table.sum(3, 0, 0, 2));
        due.fails("sum 6, 5", Due.ARGUMENT, () -> table.sum(3, 6, 5, 2));
        due.fails("sum time 3", Due.ARGUMENT, () -> table.sum(3, 0, 1, 3));
    }

    private static void changes() {
        TwoTimesTable table = sample();
        long[] want = {1, 1, 2, 1, 1, 1, 0};
        for (int day = 0; day < want.length; day++) {
            due.is("changes of day " + day, want[day], table.changes(3, day));
        }
        due.is("at time 0 there is no change", 0, table.changes(3, 31));
        due.is("another key", 0, table.changes(0, 2));
        table.state(Due.PUT, 3, 7, 0, 2);
        due.is("as the time before again", 0, table.changes(3, 0));
        table.state(Due.PUT, 3, 8, 0, 2);
        due.is("several statements at a time", 1, table.changes(3, 0));
        Due.tickTo(table, 39);
        due.is("ticks change nothing", 1, table.changes(3, 0));
        table.state(Due.PUT, 3, 0, 20, 21);
        due.is("0 where there was nothing", 1, table.changes(3, 20));
        table.state(Due.DELETE, 3, 0, 3, 4);
        due.is("nothing where there was 0", 2, table.changes(3, 3));

        TwoTimesTable busy = new TwoTimesTable();
        for (int time = 1; time <= 39; time++) {
            busy.tick();
            busy.state(Due.PUT, 0, time, 31, 32);
        }
        due.is("at every time", 39, busy.changes(0, 31));
    }

    private static void changesOnWrongInputs() {
        TwoTimesTable table = sample();
        for (int far : Due.FAR) {
            due.fails("changes key", Due.ARGUMENT, () -> table.changes(far, 0));
            due.fails("changes day", Due.ARGUMENT, () -> table.changes(0, far));
        }
        due.fails("changes key 4", Due.ARGUMENT, () -> table.changes(4, 0));
        due.fails("changes day 32", Due.ARGUMENT, () -> table.changes(0, 32));
    }
}
