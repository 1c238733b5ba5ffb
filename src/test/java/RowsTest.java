/** Promises 13 and 14: rows, row. */
public final class RowsTest {
    private static final Due due = new Due();
    private static final int OPEN = TwoTimesTable.NONE;

    public static void main(String[] args) {
        rowsOfOneTime();
        rowsEndAndBegin();
        rowsComeAgain();
        sameStateAgainAtTheSameTime();
        orderOfRows();
        oneRowWhereOnlyTheValueStays();
        manyRows();
        wrongInputs();
        due.end("RowsTest");
    }

    private static void row(TwoTimesTable table, int k, int... want) {
        for (int part = 0; part < 6; part++) {
            due.is("row(" + k + ", " + part + ")", want[part], table.row(k, part));
        }
    }

    private static void rowsOfOneTime() {
        TwoTimesTable table = new TwoTimesTable();
        due.is("no rows", 0, table.rows());
        table.state(Due.PUT, 2, 5, 3, 8);
        row(table, 0, 2, 5, 3, 8, 0, OPEN);
        table.state(Due.PUT, 2, 6, 5, 6);
        due.is("rows", 3, table.rows());
        row(table, 0, 2, 5, 3, 5, 0, OPEN);
        row(table, 1, 2, 6, 5, 6, 0, OPEN);
        row(table, 2, 2, 5, 6, 8, 0, OPEN);
        table.state(Due.DELETE, 2, 6, 0, 32);
        due.is("gone at the same time", 0, table.rows());
        table.tick();
        due.is("a tick makes no row", 0, table.rows());
    }

    private static void rowsEndAndBegin() {
        TwoTimesTable table = new TwoTimesTable();
        table.state(Due.PUT, 0, 1, 0, 8);
        table.state(Due.PUT, 0, 3, 20, 24);
        table.tick();
        table.tick();
        due.is("ticks make no rows", 2, table.rows());
        row(table, 0, 0, 1, 0, 8, 0, OPEN);
        table.state(Due.DELETE, 0, 0, 7, 8);
        due.is("rows", 3, table.rows());
        row(table, 0, 0, 1, 0, 8, 0, 2);
        row(table, 1, 0, 3, 20, 24, 0, OPEN);
        row(table, 2, 0, 1, 0, 7, 2, OPEN);
        table.tick();
        table.state(Due.UPDATE, 0, 9, 0, 32);
        due.is("rows", 5, table.rows());
        row(table, 1, 0, 3, 20, 24, 0, 3);
        row(table, 2, 0, 1, 0, 7, 2, 3);
        row(table, 3, 0, 9, 0, 7, 3, OPEN);
        row(table, 4, 0, 9, 20, 24, 3, OPEN);
        Due.tickTo(table, 39);
        table.state(Due.DELETE, 0, 0, 0, 32);
        due.is("rows", 5, table.rows());
        row(table, 4, 0, 9, 20, 24, 3, 39);
    }

    private static void rowsComeAgain() {
        TwoTimesTable table = new TwoTimesTable();
        table.state(Due.PUT, 1, 1, 2, 4);
        table.tick();
        table.state(Due.DELETE, 1, 0, 0, 32);
        table.tick();
        table.state(Due.PUT, 1, 1, 2, 4);
        due.is("rows", 2, table.rows());
        row(table, 0, 1, 1, 2, 4, 0, 1);
        row(table, 1, 1, 1, 2, 4, 2, OPEN);
    }

    private static void sameStateAgainAtTheSameTime() {
        TwoTimesTable table = new TwoTimesTable();
        table.state(Due.PUT, 1, 1, 0, 32);
        table.tick();
        table.state(Due.PUT, 1, 2, 4, 9);
        due.is("rows", 4, table.rows());
        row(table, 0, 1, 1, 0, 32, 0, 1);
        table.state(Due.PUT, 1, 1, 4, 9);
        due.is("the row goes on", 1, table.rows());
        row(table, 0, 1, 1, 0, 32, 0, OPEN);
        table.state(Due.DELETE, 1, 1, 0, 32);
        due.is("the row ends", 1, table.rows());
        row(table, 0, 1, 1, 0, 32, 0, 1);
    }

    private static void orderOfRows() {
        TwoTimesTable table = new TwoTimesTable();
        table.state(Due.PUT, 3, 30, 0, 2);
        table.state(Due.PUT, 1, 11, 10, 12);
        table.state(Due.PUT, 1, 10, 4, 5);
        table.tick();
        table.state(Due.PUT, 0, 1, 31, 32);
        table.state(Due.PUT, 1, 12, 0, 1);
        table.state(Due.PUT, 1, 13, 20, 21);
        table.tick();
        table.state(Due.PUT, 1, 14, 1, 2);
        table.state(Due.PUT, 0, 2, 0, 1);
        due.is("rows", 8, table.rows());
        row(table, 0, 0, 1, 31, 32, 1, OPEN);
        row(table, 1, 0, 2, 0, 1, 2, OPEN);
        row(table, 2, 1, 10, 4, 5, 0, OPEN);
        row(table, 3, 1, 11, 10, 12, 0, OPEN);
        row(table, 4, 1, 12, 0, 1, 1, OPEN);
        row(table, 5, 1, 13, 20, 21, 1, OPEN);
        row(table, 6, 1, 14, 1, 2, 2, OPEN);
        row(table, 7, 3, 30, 0, 2, 0, OPEN);
    }

    private static void oneRowWhereOnlyTheValueStays() {
        TwoTimesTable table = new TwoTimesTable();
        table.state(Due.PUT, 0, 5, 10, 20);
        table.tick();
        table.state(Due.PUT, 0, 5, 9, 10);
        due.is("begins before", 2, table.rows());
        row(table, 0, 0, 5, 10, 20, 0, 1);
        row(table, 1, 0, 5, 9, 20, 1, OPEN);
        table.tick();
        table.state(Due.PUT, 0, 5, 20, 21);
        due.is("ends behind", 3, table.rows());
        row(table, 1, 0, 5, 9, 20, 1, 2);
        table.tick();
        table.state(Due.PUT, 0, 6, 21, 22);
        due.is("another value beside it", 4, table.rows());
        row(table, 2, 0, 5, 9, 21, 2, OPEN);
        table.tick();
        table.state(Due.PUT, 0, 0, 8, 9);
        due.is("a 0 beside it", 5, table.rows());
        row(table, 2, 0, 5, 9, 21, 2, OPEN);
        table.tick();
        table.state(Due.UPDATE, 0, 7, 9, 21);
        due.is("another value in the same period", 6, table.rows());
        row(table, 2, 0, 5, 9, 21, 2, 5);
    }

    private static void manyRows() {
        TwoTimesTable table = Due.with128Rows();
        table.state(Due.PUT, 3, 50, 0, 32);
        due.is("rows", 129, table.rows());
        for (int k = 0; k < 128; k++) {
            int begin = k / 32;
            int day = k % 32;
            int end = begin == 3 ? OPEN : begin + 1;
            due.is("from of " + k, day, table.row(k, 2));
            due.is("begin of " + k, begin, table.row(k, 4));
            due.is("end of " + k, end, table.row(k, 5));
        }
        row(table, 128, 3, 50, 0, 32, 4, OPEN);
    }

    private static void wrongInputs() {
        TwoTimesTable table = new TwoTimesTable();
        due.fails("row 0 of none", Due.INDEX, () -> table.row(0, 0));
        table.state(Due.PUT, 2, 5, 3, 8);
        for (int far : Due.FAR) {
            due.fails("row k", Due.INDEX, () -> table.row(far, 0));
            due.fails("row part", Due.ARGUMENT, () -> table.row(0, far));
            due.fails("row k and part", Due.ARGUMENT, () -> table.row(far, far));
        }
        due.fails("row 1", Due.INDEX, () -> table.row(1, 5));
        due.fails("part 6", Due.ARGUMENT, () -> table.row(0, 6));
    }
}
