/** Promises 11 and 12: runs, run. */
public final class RunsTest {
    private static final Due due = new Due();

    public static void main(String[] args) {
        longestPeriods();
        mostRuns();
        runsOfEarlierTimes();
        wrongInputs();
        due.end("RunsTest");
    }

    private static void run(TwoTimesTable table, int key, int time, int k, int... want) {
        for (int part = 0; part < 3; part++) {
            due.is("run(" + key + ", " + time + ", " + k + ", " + part + ")", want[part],
                table.run(key, time, k, part));
        }
    }

    private static void longestPeriods() {
        TwoTimesTable table = new TwoTimesTable();
        due.is("no runs", 0, table.runs(0, 0));
        table.state(Due.PUT, 0, 4, 0, 3);
        table.state(Due.PUT, 0, 4, 3, 5);
        table.state(Due.PUT, 0, 0, 6, 8);
        table.state(Due.PUT, 0, 4, 8, 9);
        table.state(Due.PUT, 0, 4, 30, 31);
        table.state(Due.PUT, 0, -9, 31, 32);
        due.is("runs", 5, table.runs(0, 0));
        run(table, 0, 0, 0, 0, 5, 4);
        run(table, 0, 0, 1, 6, 8, 0);
        run(table, 0, 0, 2, 8, 9, 4);
        run(table, 0, 0, 3, 30, 31, 4);
        run(table, 0, 0, 4, 31, 32, -9);
        due.is("other key", 0, table.runs(1, 0));
        table.state(Due.PUT, 0, 4, 0, 32);
        due.is("one run", 1, table.runs(0, 0));
        run(table, 0, 0, 0, 0, 32, 4);
        table.state(Due.PUT, 2, 0, 3, 4);
        due.is("a 0 beside nothing", 1, table.runs(2, 0));
        run(table, 2, 0, 0, 3, 4, 0);
    }

    private static void mostRuns() {
        TwoTimesTable table = new TwoTimesTable();
        Due.fillWithSingleDays(table, 3);
        due.is("runs", 32, table.runs(3, 0));
        for (int day = 0; day < 32; day++) {
            run(table, 3, 0, day, day, day + 1, 1 + day % 2);
        }
        due.fails("run 32", Due.INDEX, () -> table.run(3, 0, 32, 0));
    }

    private static void runsOfEarlierTimes() {
        TwoTimesTable table = new TwoTimesTable();
        table.state(Due.PUT, 1, 1, 0, 10);
        table.tick();
        table.state(Due.DELETE, 1, 1, 3, 5);
        table.tick();
        table.state(Due.PUT, 1, 2, 3, 10);
        due.is("runs at 0", 1, table.runs(1, 0));
        due.is("runs at 1", 2, table.runs(1, 1));
        due.is("runs at 2", 2, table.runs(1, 2));
        run(table, 1, 0, 0, 0, 10, 1);
        run(table, 1, 1, 0, 0, 3, 1);
        run(table, 1, 1, 1, 5, 10, 1);
        run(table, 1, 2, 1, 3, 10, 2);
    }

    private static void wrongInputs() {
        TwoTimesTable table = new TwoTimesTable();
        table.state(Due.PUT, 0, 1, 0, 32);
        for (int far : Due.FAR) {
            due.fails("runs key", Due.ARGUMENT, () -> table.runs(far, 0));
            due.fails("runs time", Due.ARGUMENT, () -> table.runs(0, far));
            due.fails("run key", Due.ARGUMENT, () -> table.run(far, 0, 0, 0));
            due.fails("run time", Due.ARGUMENT, () -> table.run(0, far, 0, 0));
            due.fails("run part", Due.ARGUMENT, () -> table.run(0, 0, 0, far));
            due.fails("run k", Due.INDEX, () -> table.run(0, 0, far, 0));
            due.fails("run k and part", Due.ARGUMENT, () -> table.run(0, 0, far, far));
            due.fails("run k and key", Due.ARGUMENT, () -> table.run(far, 0, far, 0));
            due.fails("run k and time", Due.ARGUMENT, () -> table.run(0, far, far, 0));
        }
        due.fails("runs key 4", Due.ARGUMENT, () -> table.runs(4, 0));
        due.fails("runs time 1", Due.ARGUMENT, () -> table.runs(0, 1));
        due.fails("run key 4", Due.ARGUMENT, () -> table.run(4, 0, 0, 0));
        due.fails("run time 1", Due.ARGUMENT, () -> table.run(0, 1, 0, 0));
        due.fails("run part 3", Due.ARGUMENT, () -> table.run(0, 0, 0, 3));
        due.fails("run k 1", Due.INDEX, () -> table.run(0, 0, 1, 2));
        due.fails("run 0 of nothing", Due.INDEX, () -> table.run(1, 0, 0, 2));
    }
}
