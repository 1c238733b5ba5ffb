/** Promise 4: state, and how statements fail. */
public final class StateTest {
    private static final Due due = new Due();

    public static void main(String[] args) {
        put();
        insert();
        update();
        add();
        delete();
        wrongArguments();
        wrongArgumentsComeFirst();
        atMost150Rows();
        everyKindMeetsTheRowLimit();
        changesOnlyThePresent();
        due.end("StateTest");
    }

    private static void put() {
        TwoTimesTable table = new TwoTimesTable();
        due.is("put on nothing", 4, table.state(Due.PUT, 2, 5, 28, 32));
        due.is("put over some", 2, table.state(Due.PUT, 2, 5, 26, 30));
        due.is("put the same", 0, table.state(Due.PUT, 2, 5, 26, 32));
        due.is("put another", 6, table.state(Due.PUT, 2, -5, 26, 32));
        due.is("value", -5, table.value(2, 31, 0));
        due.is("beside it", false, table.has(2, 25, 0));
        due.is("0 is a value", 1, table.state(Due.PUT, 2, 0, 0, 1));
        due.is("0 again", 0, table.state(Due.PUT, 2, 0, 0, 1));
        due.is("0 is there", true, table.has(2, 0, 0));
        due.is("all days", 32, table.state(Due.PUT, 1, Integer.MIN_VALUE, 0, 32));
        due.is("value", Integer.MIN_VALUE, table.value(1, 0, 0));
        due.is("other key", false, table.has(0, 0, 0));
    }

    private static void insert() {
        TwoTimesTable table = new TwoTimesTable();
        due.is("insert", 3, table.state(Due.INSERT, 0, 4, 10, 13));
        due.fails("insert at its last day", Due.STATE, () -> table.state(Due.INSERT, 0, 4, 12, 15));
        due.fails("insert at its first day", Due.STATE, () -> table.state(Due.INSERT, 0, 4, 5, 11));
        due.fails("insert round it", Due.STATE, () -> table.state(Due.INSERT, 0, 4, 0, 32));
        due.is("nothing was changed", false, table.has(0, 9, 0));
        due.is("nothing was changed", false, table.has(0, 13, 0));
        due.is("beside it, before", 10, table.state(Due.INSERT, 0, 1, 0, 10));
        due.is("beside it, behind", 19, table.state(Due.INSERT, 0, 1, 13, 32));
        due.is("another key", 32, table.state(Due.INSERT, 3, 1, 0, 32));
        due.is("insert of 0", 1, table.state(Due.INSERT, 1, 0, 0, 1));
        due.fails("insert on a 0", Due.STATE, () -> table.state(Due.INSERT, 1, 2, 0, 1));
    }

    private static void update() {
        TwoTimesTable table = new TwoTimesTable();
        due.fails("update of nothing", Due.ELEMENT, () -> table.state(Due.UPDATE, 0, 1, 0, 32));
        table.state(Due.PUT, 0, 1, 4, 6);
        table.state(Due.PUT, 0, 2, 8, 10);
        due.fails("update beside it", Due.ELEMENT, () -> table.state(Due.UPDATE, 0, 1, 6, 8));
        due.fails("update of another key", Due.ELEMENT, () -> table.state(Due.UPDATE, 1, 1, 0, 32));
        due.is("update", 2, table.state(Due.UPDATE, 0, 2, 0, 32));
        due.is("value", 2, table.value(0, 4, 0));
        due.is("still nothing", false, table.has(0, 7, 0));
        due.is("update to the same", 0, table.state(Due.UPDATE, 0, 2, 0, 32));
        due.is("update of one day", 1, table.state(Due.UPDATE, 0, 9, 5, 8));
        due.is("before it", 2, table.value(0, 4, 0));
        due.is("update to 0", 4, table.state(Due.UPDATE, 0, 0, 0, 32));
        due.is("0 is there", true, table.has(0, 4, 0));
    }

    private static void add() {
        TwoTimesTable table = new TwoTimesTable();
        due.fails("add to nothing", Due.ELEMENT, () -> table.state(Due.ADD, 0, 1, 0, 32));
        table.state(Due.PUT, 0, Integer.MAX_VALUE, 0, 2);
        table.state(Due.PUT, 0, -3, 4, 6);
        due.fails("add beside it", Due.ELEMENT, () -> table.state(Due.ADD, 0, 1, 2, 4));
        due.is("add 0", 0, table.state(Due.ADD, 0, 0, 0, 32));
        due.is("add 3", 4, table.state(Due.ADD, 0, 3, 0, 32));
        due.is("wraps", Integer.MIN_VALUE + 2, table.value(0, 0, 0));
        due.is("becomes 0", 0, table.value(0, 4, 0));
        due.is("still nothing", false, table.has(0, 2, 0));
        due.is("wraps back", 4, table.state(Due.ADD, 0, Integer.MIN_VALUE, 0, 32));
        due.is("value", 2, table.value(0, 1, 0));
        due.is("value", Integer.MIN_VALUE, table.value(0, 5, 0));
    }

    private static void delete() {
        TwoTimesTable table = new TwoTimesTable();
        due.fails("delete of nothing", Due.ELEMENT, () -> table.state(Due.DELETE, 0, 1, 0, 32));
        table.state(Due.PUT, 0, 0, 0, 10);
        due.fails("delete beside it", Due.ELEMENT, () -> table.state(Due.DELETE, 0, 0, 10, 32));
        due.is("delete a part", 2, table.state(Due.DELETE, 0, 77, 8, 32));
        due.is("gone", false, table.has(0, 8, 0));
        due.is("still there", true, table.has(0, 7, 0));
        due.is("delete the rest", 8, table.state(Due.DELETE, 0, -1, 0, 32));
        due.is("all gone", 0, table.runs(0, 0));
        due.fails("delete again", Due.ELEMENT, () -> table.state(Due.DELETE, 0, 0, 0, 32));
        due.is("insert on what was taken out", 10, table.state(Due.INSERT, 0, 3, 0, 10));
    }

    private static void wrongArguments() {
        for (int kind = 0; kind <= 4; kind++) {
            TwoTimesTable table = new TwoTimesTable();
            table.state(Due.PUT, 0, 1, 0, 16);
            int fine = kind;
            for (int far : Due.FAR) {
                due.fails("kind " + far, Due.ARGUMENT, () -> table.state(far, 0, 1, 0, 1));
                due.fails("key " + far, Due.ARGUMENT, () -> table.state(fine, far, 1, 0, 1));
                due.fails("from " + far, Due.ARGUMENT, () -> table.state(fine, 0, 1, far, 16));
                due.fails("to " + far, Due.ARGUMENT, () -> table.state(fine, 0, 1, 0, far));
            }
            due.fails("kind 5", Due.ARGUMENT, () -> table.state(5, 0, 1, 0, 1));
            due.fails("key 4", Due.ARGUMENT, () -> table.state(fine, 4, 1, 0, 1));
            due.fails("0, 0", Due.ARGUMENT, () -> table.state(fine, 0, 1, 0, 0));
            due.fails("32, 32", Due.ARGUMENT, () -> table.state(fine, 0, 1, 32, 32));
            due.fails("31, 33", Due.ARGUMENT, () -> table.state(fine, 0, 1, 31, 33));
            due.fails("5, 4", Due.ARGUMENT, () -> table.state(fine, 0, 1, 5, 4));
            due.is("nothing was changed", 16, table.sum(0, 0, 32, 0));
            due.is("nothing was changed", 1, table.rows());
            due.is("the last day", 1, table.state(Due.PUT, 0, 1, 31, 32));
        }
    }

    private static void wrongArgumentsComeFirst() {
        TwoTimesTable table = Due.with128Rows();
        due.fails("delete of nothing on no period", Due.ARGUMENT, () -> table.state(Due.DELETE, 1, 0, 3, 3));
        due.fails("insert on values on no period", Due.ARGUMENT, () -> table.state(Due.INSERT, 0, 0, 0, 33));
        due.fails("update of a key not there", Due.ARGUMENT, () -> table.state(Due.UPDATE, 4, 0, 0, 32));
    }

    private static void atMost150Rows() {
        TwoTimesTable table = Due.with128Rows();
        due.is("rows", 128, table.rows());
        due.fails("160 rows", Due.STATE, () -> table.state(Due.ADD, 0, 1, 0, 32));
        due.is("nothing was changed", 4, table.value(0, 0, 4));
        due.is("rows", 128, table.rows());
        due.fails("151 rows", Due.STATE, () -> table.state(Due.ADD, 0, 1, 0, 23));
        due.is("rows", 128, table.rows());
        due.is("row still open", TwoTimesTable.NONE, table.row(127, 5));
        due.is("150 rows", 22, table.state(Due.ADD, 0, 1, 0, 22));
        due.is("rows", 150, table.rows());
        due.fails("one more", Due.STATE, () -> table.state(Due.PUT, 3, 1, 0, 1));
        due.is("nothing was put", false, table.has(3, 0, 4));
        due.is("no rows more: another value", 22, table.state(Due.ADD, 0, 1, 0, 22));
        due.is("no change", 0, table.state(Due.ADD, 0, 0, 0, 22));
        due.is("rows", 150, table.rows());
        due.is("fewer rows", 22, table.state(Due.ADD, 0, -2, 0, 22));
        due.is("rows", 128, table.rows());
        due.is("room again", 1, table.state(Due.PUT, 3, 1, 0, 1));
        due.is("rows", 129, table.rows());
    }

    private static void everyKindMeetsTheRowLimit() {
        TwoTimesTable table = Due.with128Rows();
        table.state(Due.PUT, 1, 1, 0, 30);
        table.tick();
        table.state(Due.DELETE, 0, 0, 0, 32);
        table.state(Due.PUT, 0, 1, 0, 1);
        for (int day = 0; day < 20; day++) {
            table.state(Due.PUT, 0, 100 + day, day, day + 1);
        }
        due.is("rows", 149, table.rows());
        due.fails("put in the midst", Due.STATE, () -> table.state(Due.PUT, 1, 2, 5, 6));
        due.fails("update in the midst", Due.STATE, () -> table.state(Due.UPDATE, 1, 2, 5, 6));
        due.fails("add in the midst", Due.STATE, () -> table.state(Due.ADD, 1, 2, 5, 6));
        due.fails("delete in the midst", Due.STATE, () -> table.state(Due.DELETE, 1, 2, 5, 6));
        due.is("rows", 149, table.rows());
        due.is("runs", 1, table.runs(1, table.clock()));
        due.is("delete at the edge", 1, table.state(Due.DELETE, 1, 2, 0, 1));
        due.is("rows", 150, table.rows());
        due.fails("insert", Due.STATE, () -> table.state(Due.INSERT, 2, 2, 0, 1));
        due.is("nothing was put", false, table.has(2, 0, table.clock()));
    }

    private static void changesOnlyThePresent() {
        TwoTimesTable table = new TwoTimesTable();
        table.state(Due.PUT, 0, 1, 0, 32);
        table.tick();
        table.state(Due.UPDATE, 0, 2, 0, 32);
        table.tick();
        table.state(Due.ADD, 0, 2, 0, 32);
        table.state(Due.PUT, 0, 3, 0, 16);
        table.tick();
        table.state(Due.DELETE, 0, 2, 0, 32);
        due.is("sum at 0", 32, table.sum(0, 0, 32, 0));
        due.is("sum at 1", 64, table.sum(0, 0, 32, 1));
        due.is("sum at 2", 16 * 3 + 16 * 4, table.sum(0, 0, 32, 2));
        due.is("sum at 3", 0, table.sum(0, 0, 32, 3));
    }
}
