/** Promises 1 to 3: a new object, tick, clock. */
public final class ClockTest {
    private static final Due due = new Due();

    public static void main(String[] args) {
        newObjectIsEmpty();
        objectsAreApart();
        clockGoesToItsEnd();
        statesAreCarriedOn();
        tickLeavesWaitingStatements();
        due.end("ClockTest");
    }

    private static void newObjectIsEmpty() {
        TwoTimesTable table = new TwoTimesTable();
        due.is("clock", 0, table.clock());
        due.is("rows", 0, table.rows());
        due.is("failed", TwoTimesTable.NONE, table.failed());
        for (int key = 0; key < 4; key++) {
            due.is("runs", 0, table.runs(key, 0));
            due.is("sum", 0, table.sum(key, 0, 32, 0));
            for (int day = 0; day < 32; day++) {
                due.is("has", false, table.has(key, day, 0));
            }
        }
        due.is("commit with none waiting", 0, table.commit());
        due.is("failed", TwoTimesTable.NONE, table.failed());
    }

    private static void objectsAreApart() {
        TwoTimesTable one = new TwoTimesTable();
        TwoTimesTable two = new TwoTimesTable();
        one.state(Due.PUT, 0, 1, 0, 32);
        one.queue(Due.PUT, 1, 1, 0, 32);
        one.tick();
        due.is("clock of the other", 0, two.clock());
        due.is("rows of the other", 0, two.rows());
        due.is("commit of the other", 0, two.commit());
    }

    private static void clockGoesToItsEnd() {
        TwoTimesTable table = new TwoTimesTable();
        for (int time = 1; time <= 39; time++) {
            due.is("tick", time, table.tick());
            due.is("clock", time, table.clock());
        }
        for (int again = 0; again < 3; again++) {
            due.fails("tick at 39", Due.STATE, table::tick);
            due.is("clock", 39, table.clock());
        }
        due.is("a statement at 39", 32, table.state(Due.PUT, 3, 1, 0, 32));
        due.is("has at 39", true, table.has(3, 31, 39));
        due.is("has at 38", false, table.has(3, 31, 38));
        due.fails("tick at 39", Due.STATE, table::tick);
        due.is("value at 39", 1, table.value(3, 0, 39));
    }

    private static void statesAreCarriedOn() {
        TwoTimesTable table = new TwoTimesTable();
        for (int key = 0; key < 4; key++) {
            table.state(Due.PUT, key, 10 + key, key, 32 - key);
        }
        table.tick();
        table.state(Due.DELETE, 1, 0, 1, 31);
        table.state(Due.PUT, 2, 7, 0, 32);
        table.tick();
        for (int key = 0; key < 4; key++) {
            due.is("value at 0", 10 + key, table.value(key, 5, 0));
            due.is("runs at 0", 1, table.runs(key, 0));
        }
        due.is("value not changed at 1", 10, table.value(0, 5, 2));
        due.is("taken out at 1", false, table.has(1, 5, 1));
        due.is("taken out for 2", false, table.has(1, 5, 2));
        due.is("changed at 1", 7, table.value(2, 5, 1));
        due.is("changed for 2", 7, table.value(2, 5, 2));
        due.is("run's end at 2", 29, table.run(3, 2, 0, 1));
    }

    private static void tickLeavesWaitingStatements() {
        TwoTimesTable table = new TwoTimesTable();
        table.queue(Due.PUT, 0, 1, 0, 2);
        table.tick();
        due.is("commit", 2, table.commit());
        due.is("has at 0", false, table.has(0, 0, 0));
        due.is("has at 1", true, table.has(0, 0, 1));
    }
}
