/** Promises 5 to 7: queue, commit, failed. */
public final class CommitTest {
    private static final Due due = new Due();

    public static void main(String[] args) {
        eightMayWait();
        queueLooksAtNothing();
        inTheirOrder();
        allOrNone();
        failsAsTheStatement();
        rowLimitWithinACommit();
        noneWaitsAnyMore();
        failedTellsOfTheLatestCommit();
        stateGoesBesideTheQueue();
        due.end("CommitTest");
    }

    private static void eightMayWait() {
        TwoTimesTable table = new TwoTimesTable();
        for (int number = 0; number < 8; number++) {
            due.is("queue " + number, true, table.queue(Due.PUT, 0, number, number, number + 1));
        }
        due.is("queue 8", false, table.queue(Due.PUT, 0, 99, 0, 32));
        due.is("queue 9", false, table.queue(9, 9, 9, 9, 9));
        due.is("commit", 8, table.commit());
        for (int number = 0; number < 8; number++) {
            due.is("value", number, table.value(0, number, 0));
        }
        due.is("the ninth did not wait", false, table.has(0, 8, 0));
        due.is("queue again", true, table.queue(Due.PUT, 0, 5, 8, 9));
        due.is("commit again", 1, table.commit());
    }

    private static void queueLooksAtNothing() {
        for (int far : Due.FAR) {
            TwoTimesTable table = new TwoTimesTable();
            due.is("queue", true, table.queue(far, far, far, far, far));
            due.is("queue", true, table.queue(Due.DELETE, 0, 0, 0, 32));
            due.is("rows", 0, table.rows());
            due.fails("commit", Due.ARGUMENT, table::commit);
            due.is("failed", 0, table.failed());
        }
        TwoTimesTable table = new TwoTimesTable();
        due.is("queue", true, table.queue(Due.INSERT, 0, 1, 0, 4));
        due.is("not done yet", false, table.has(0, 0, 0));
        due.is("not done yet", 0, table.rows());
    }

    private static void inTheirOrder() {
        TwoTimesTable table = new TwoTimesTable();
        table.queue(Due.INSERT, 1, 5, 0, 10);
        table.queue(Due.ADD, 1, 1, 5, 32);
        table.queue(Due.DELETE, 1, 0, 4, 6);
        table.queue(Due.UPDATE, 1, 0, 0, 32);
        table.queue(Due.INSERT, 1, 9, 4, 6);
        due.is("commit", 10 + 5 + 2 + 8 + 2, table.commit());
        due.is("sum", 18, table.sum(1, 0, 32, 0));
        due.is("runs", 3, table.runs(1, 0));
        due.is("failed", TwoTimesTable.NONE, table.failed());
        for (int number = 0; number < 8; number++) {
            table.queue(Due.PUT, 2, number, 0, 32);
        }
        due.is("most days", 256, table.commit());
        due.is("the last one holds", 7, table.value(2, 31, 0));
    }

    private static void allOrNone() {
        TwoTimesTable table = new TwoTimesTable();
        table.state(Due.PUT, 0, 1, 0, 10);
        table.state(Due.PUT, 3, 1, 0, 1);
        table.tick();
        table.state(Due.PUT, 0, 2, 5, 7);
        table.queue(Due.DELETE, 0, 0, 0, 32);
        table.queue(Due.PUT, 1, 4, 0, 32);
        table.queue(Due.PUT, 2, 4, 3, 5);
        table.queue(Due.ADD, 3, 4, 0, 32);
        table.queue(Due.INSERT, 1, 4, 31, 32);
        due.fails("commit", Due.STATE, table::commit);
        due.is("failed", 4, table.failed());
        due.is("key 0", 8 + 4, table.sum(0, 0, 32, 1));
        due.is("key 0 runs", 3, table.runs(0, 1));
        due.is("key 0 run 1 to", 7, table.run(0, 1, 1, 1));
        due.is("key 1", 0, table.runs(1, 1));
        due.is("key 2", 0, table.runs(2, 1));
        due.is("key 3", 1, table.value(3, 0, 1));
        due.is("rows", 5, table.rows());
        due.is("row 0 end", 1, table.row(0, 5));
        due.is("row 4 end", TwoTimesTable.NONE, table.row(4, 5));
        due.is("clock", 1, table.clock());
    }

    private static void failsAsTheStatement() {
        TwoTimesTable table = new TwoTimesTable();
        table.queue(Due.PUT, 0, 1, 0, 10);
        table.queue(Due.UPDATE, 0, 1, 10, 20);
        table.queue(Due.PUT, 0, 1, 10, 10);
        due.fails("missing comes first", Due.ELEMENT, table::commit);
        due.is("failed", 1, table.failed());
        table.queue(Due.PUT, 0, 1, 0, 10);
        table.queue(Due.PUT, 0, 1, 10, 10);
        table.queue(Due.UPDATE, 0, 1, 10, 20);
        due.fails("wrong comes first", Due.ARGUMENT, table::commit);
        due.is("failed", 1, table.failed());
        for (int number = 0; number < 7; number++) {
            table.queue(Due.PUT, 0, 1, number, number + 1);
        }
        table.queue(Due.INSERT, 0, 1, 6, 8);
        due.fails("the eighth", Due.STATE, table::commit);
        due.is("failed", 7, table.failed());
        due.is("rows", 0, table.rows());
    }

    private static void rowLimitWithinACommit() {
        TwoTimesTable table = Due.with128Rows();
        table.queue(Due.ADD, 0, 1, 0, 22);
        table.queue(Due.PUT, 1, 1, 0, 1);
        table.queue(Due.ADD, 0, -1, 0, 22);
        due.fails("151 rows behind the second, fewer behind the third", Due.STATE, table::commit);
        due.is("failed", 1, table.failed());
        due.is("rows", 128, table.rows());
        due.is("value", 4, table.value(0, 0, 4));
        due.is("row still open", TwoTimesTable.NONE, table.row(127, 5));
        table.queue(Due.ADD, 0, 1, 0, 22);
        table.queue(Due.ADD, 0, -1, 0, 22);
        table.queue(Due.PUT, 1, 1, 0, 1);
        due.is("150 rows and fewer", 45, table.commit());
        due.is("rows", 129, table.rows());
    }

    private static void noneWaitsAnyMore() {
        TwoTimesTable table = new TwoTimesTable();
        table.queue(Due.PUT, 0, 1, 0, 10);
        due.is("commit", 10, table.commit());
        table.state(Due.DELETE, 0, 0, 0, 10);
        due.is("commit of none", 0, table.commit());
        due.is("not done again", 0, table.runs(0, 0));
        table.queue(Due.DELETE, 0, 0, 0, 10);
        table.queue(Due.PUT, 0, 1, 0, 10);
        due.fails("commit", Due.ELEMENT, table::commit);
        due.is("commit of none", 0, table.commit());
        due.is("the second does not wait", 0, table.runs(0, 0));
        for (int number = 0; number < 8; number++) {
            due.is("room for eight", true, table.queue(Due.PUT, 0, 1, 0, 10));
        }
        due.is("no room for nine", false, table.queue(Due.PUT, 0, 1, 0, 10));
    }

    private static void failedTellsOfTheLatestCommit() {
        TwoTimesTable table = new TwoTimesTable();
        due.is("no commit", TwoTimesTable.NONE, table.failed());
        due.fails("state", Due.ARGUMENT, () -> table.state(7, 0, 0, 0, 1));
        due.is("state is no commit", TwoTimesTable.NONE, table.failed());
        table.queue(Due.PUT, 0, 1, 0, 1);
        table.queue(Due.INSERT, 0, 1, 0, 1);
        due.fails("commit", Due.STATE, table::commit);
        due.is("failed", 1, table.failed());
        table.queue(Due.PUT, 0, 1, 0, 1);
        table.state(Due.PUT, 0, 1, 0, 1);
        table.tick();
        due.is("still that of the latest", 1, table.failed());
        due.is("commit", 0, table.commit());
        due.is("none failed", TwoTimesTable.NONE, table.failed());
        table.queue(Due.INSERT, 0, 1, 0, 1);
        due.fails("commit", Due.STATE, table::commit);
        due.is("failed", 0, table.failed());
        due.is("commit of none", 0, table.commit());
        due.is("none failed", TwoTimesTable.NONE, table.failed());
    }

    private static void stateGoesBesideTheQueue() {
        TwoTimesTable table = new TwoTimesTable();
        table.queue(Due.ADD, 0, 5, 0, 32);
        due.is("state", 2, table.state(Due.INSERT, 0, 1, 0, 2));
        due.fails("state", Due.STATE, () -> table.state(Due.INSERT, 0, 1, 0, 2));
        due.is("not done yet", 1, table.value(0, 0, 0));
        due.is("commit", 2, table.commit());
        due.is("done", 6, table.value(0, 0, 0));
    }
}
