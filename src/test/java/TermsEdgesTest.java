/** The edges that "What it is" and "Terms" name: one test a sentence, the sentence written with it. */
public final class TermsEdgesTest {
    private static final Due due = new Due();
    private static final int OPEN = TwoTimesTable.NONE;
    private static final int[] INTS = {Integer.MIN_VALUE, -2, -1, 0, 1, 31, 32, Integer.MAX_VALUE};

    public static void main(String[] args) {
        objectIsUsedFor512Calls();
        noneIsMinus1();
        keysAre0To3();
        keysAreApart();
        daysAre0To31();
        clockShows0To39();
        periodIsFromTo();
        periodIsTheDaysFromToLess1();
        valueIsAnIntOrNothing();
        atFirstThereIsNothing();
        newTimeHasTheStateBefore();
        presentTimeAloneIsChanged();
        lastStatementAtATimeCounts();
        runsAreLongestPeriods();
        runsAreNumberedFromTheFirstDay();
        nothingMakesNoRun();
        rowBeginsWhereTheRunWasNot();
        rowMayBeginAtTime0();
        rowEndsWhereTheRunIsNot();
        openRowGoesToThePresent();
        rowsOfThePresentComeAndGo();
        rowsAreNumberedByKeyBeginAndDay();
        due.end("TermsEdgesTest");
    }

    private static void row(String call, TwoTimesTable table, int k, int... want) {
        for (int part = 0; part < 6; part++) {
            due.is(call + ": row(" + k + ", " + part + ")", want[part], table.row(k, part));
        }
    }

    /** A table in which every key has a value on every day. */
    private static TwoTimesTable full() {
        TwoTimesTable table = new TwoTimesTable();
        for (int key = 0; key < 4; key++) {
            table.state(Due.PUT, key, 10 + key, 0, 32);
        }
        return table;
    }

    private static void objectIsUsedFor512Calls() {
        due.sentence("What it is", "An object is used for at most 512 calls after it has been made");
        TwoTimesTable changed = new TwoTimesTable();
        for (int call = 1; call <= 511; call++) {
            due.is("call " + call, 32, changed.state(Due.PUT, call % 4, call, 0, 32));
        }
        due.is("call 512", 511L * 32, changed.sum(3, 0, 32, 0));
        TwoTimesTable refused = new TwoTimesTable();
        for (int call = 1; call <= 511; call++) {
            due.fails("call " + call, Due.ELEMENT, () -> refused.state(Due.ADD, 0, 1, 0, 32));
        }
        due.is("call 512", 32, refused.state(Due.INSERT, 0, 1, 0, 32));
        TwoTimesTable committed = new TwoTimesTable();
        for (int call = 1; call <= 503; call += 9) {
            for (int number = 0; number < 8; number++) {
                due.is("queue", true, committed.queue(Due.PUT, 0, number, number, number + 1));
            }
            due.is("commit", call == 1 ? 8 : 0, committed.commit());
        }
        due.is("rows", 8, committed.rows());
    }

    private static void noneIsMinus1() {
        due.sentence("Terms", "`NONE = -1`: Where something is open, or not there.");
        due.is("NONE", -1, TwoTimesTable.NONE);
        TwoTimesTable table = new TwoTimesTable();
        due.is("failed()", -1, table.failed());
        table.state(Due.PUT, 0, 1, 0, 1);
        due.is("row(0, 5)", -1, table.row(0, 5));
    }

    private static void keysAre0To3() {
        due.sentence("Terms", "KEYS are 0 .. 3");
        for (int key = 0; key < 4; key++) {
            TwoTimesTable table = full();
            due.is("state of " + key, 1, table.state(Due.PUT, key, 1, 0, 1));
            due.is("value of " + key, 1, table.value(key, 0, 0));
            due.is("runs of " + key, 2, table.runs(key, 0));
        }
        for (int key : Due.outside(4)) {
            TwoTimesTable table = full();
            for (int kind = 0; kind <= 4; kind++) {
                int any = kind;
                due.fails("state of " + key, Due.ARGUMENT, () -> table.state(any, key, 1, 0, 1));
                table.queue(any, key, 1, 0, 1);
                due.fails("commit of " + key, Due.ARGUMENT, table::commit);
            }
            due.fails("value of " + key, Due.ARGUMENT, () -> table.value(key, 0, 0));
            due.is("has of " + key, false, table.has(key, 0, 0));
            due.fails("sum of " + key, Due.ARGUMENT, () -> table.sum(key, 0, 1, 0));
            due.fails("runs of " + key, Due.ARGUMENT, () -> table.runs(key, 0));
            due.fails("run of " + key, Due.ARGUMENT, () -> table.run(key, 0, 0, 0));
            due.fails("changes of " + key, Due.ARGUMENT, () -> table.changes(key, 0));
            due.fails("join of " + key, Due.ARGUMENT, () -> table.join(key, 0, 0, 6));
            due.fails("join with " + key, Due.ARGUMENT, () -> table.join(0, key, 0, 6));
            due.is("rows", 4, table.rows());
        }
    }

    private static void keysAreApart() {
        due.sentence("Terms", "At every time of the clock each key has on each day a VALUE");
        for (int key = 0; key < 4; key++) {
            TwoTimesTable table = new TwoTimesTable();
            table.state(Due.PUT, key, 7, 0, 32);
            for (int other = 0; other < 4; other++) {
                due.is("sum of " + other, other == key ? 7 * 32 : 0, table.sum(other, 0, 32, 0));
                due.is("runs of " + other, other == key ? 1 : 0, table.runs(other, 0));
            }
        }
    }

    private static void daysAre0To31() {
        due.sentence("Terms", "DAYS 0 .. 31");
        TwoTimesTable edges = new TwoTimesTable();
        due.is("put on day 0", 1, edges.state(Due.PUT, 0, 5, 0, 1));
        due.is("put on day 31", 1, edges.state(Due.PUT, 0, 6, 31, 32));
        due.is("value of day 0", 5, edges.value(0, 0, 0));
        due.is("value of day 31", 6, edges.value(0, 31, 0));
        due.is("has day 1", false, edges.has(0, 1, 0));
        due.is("has day 30", false, edges.has(0, 30, 0));
        for (int day : Due.outside(32)) {
            TwoTimesTable table = full();
            table.tick();
            for (int time = 0; time <= 1; time++) {
                int any = time;
                due.fails("value of day " + day, Due.ARGUMENT, () -> table.value(1, day, any));
                due.is("has day " + day, false, table.has(1, day, time));
            }
            due.fails("changes of day " + day, Due.ARGUMENT, () -> table.changes(1, day));
        }
    }

    private static void clockShows0To39() {
        due.sentence("Terms", "the CLOCK shows 0 .. 39 (0 at first)");
        TwoTimesTable table = full();
        due.is("clock()", 0, table.clock());
        for (int time = 1; time <= 39; time++) {
            due.is("tick()", time, table.tick());
            due.is("clock()", time, table.clock());
        }
        due.fails("tick()", Due.STATE, table::tick);
        due.is("clock()", 39, table.clock());
        due.is("value at 39", 13, table.value(3, 31, 39));
        for (int time : Due.outside(40)) {
            due.fails("value at " + time, Due.ARGUMENT, () -> table.value(3, 31, time));
            due.is("has at " + time, false, table.has(3, 31, time));
            due.fails("sum at " + time, Due.ARGUMENT, () -> table.sum(3, 0, 1, time));
            due.fails("runs at " + time, Due.ARGUMENT, () -> table.runs(3, time));
            due.fails("run at " + time, Due.ARGUMENT, () -> table.run(3, time, 0, 0));
            due.fails("join at " + time, Due.ARGUMENT, () -> table.join(3, 3, time, 6));
        }
    }

    /** Every pair of ends round the edges, and ends so far off that their difference wraps. */
    private static void periodIsFromTo() {
        due.sentence("Terms", "A PERIOD is FROM, TO with 0 <= from < to <= 32");
        for (int from = -2; from <= 34; from++) {
            for (int to = -2; to <= 34; to++) {
                periodOrNot(from, to, from >= 0 && from < to && to <= 32);
            }
        }
        for (int far : Due.FAR) {
            for (int near : new int[] {-1, 0, 1, 16, 31, 32, 33}) {
                periodOrNot(far, near, false);
                periodOrNot(near, far, false);
            }
            for (int other : Due.FAR) {
                periodOrNot(far, other, false);
            }
        }
    }

    private static void periodOrNot(int from, int to, boolean isOne) {
        String ends = from + ", " + to;
        TwoTimesTable table = full();
        if (isOne) {
            due.is("sum " + ends, 10 * (to - from), table.sum(0, from, to, 0));
            due.is("relation to itself " + ends, 6, table.relation(from, to, from, to));
            due.is("delete " + ends, to - from, table.state(Due.DELETE, 0, 0, from, to));
            due.is("insert " + ends, to - from, table.state(Due.INSERT, 0, 1, from, to));
            due.is("add " + ends, to - from, table.state(Due.ADD, 0, 1, from, to));
            due.is("update " + ends, to - from, table.state(Due.UPDATE, 0, 3, from, to));
            due.is("put " + ends, to - from, table.state(Due.PUT, 0, 4, from, to));
            return;
        }
        for (int kind = 0; kind <= 4; kind++) {
            int any = kind;
            due.fails("state " + kind + " over " + ends, Due.ARGUMENT, () -> table.state(any, 0, 1, from, to));
        }
        table.queue(Due.PUT, 0, 1, from, to);
        due.fails("commit over " + ends, Due.ARGUMENT, table::commit);
        due.fails("sum " + ends, Due.ARGUMENT, () -> table.sum(0, from, to, 0));
        due.fails("relation of " + ends, Due.ARGUMENT, () -> table.relation(from, to, 0, 32));
        due.fails("relation to " + ends, Due.ARGUMENT, () -> table.relation(0, 32, from, to));
        due.is("sum behind it", 320, table.sum(0, 0, 32, 0));
    }

    private static void periodIsTheDaysFromToLess1() {
        due.sentence("Terms", "the days from .. to - 1");
        for (int from = 0; from < 32; from++) {
            for (int to = from + 1; to <= 32; to++) {
                TwoTimesTable table = new TwoTimesTable();
                table.state(Due.PUT, 2, 5, from, to);
                for (int day = 0; day < 32; day++) {
                    due.is("put " + from + ", " + to + ": has " + day, day >= from && day <= to - 1,
                        table.has(2, day, 0));
                }
                due.is("sum of the day " + from, 5, table.sum(2, from, from + 1, 0));
                due.is("sum of the day " + (to - 1), 5, table.sum(2, to - 1, to, 0));
                due.is("run from", from, table.run(2, 0, 0, 0));
                due.is("run to", to, table.run(2, 0, 0, 1));
            }
        }
    }

    private static void valueIsAnIntOrNothing() {
        due.sentence("Terms", "a VALUE (an int) or NOTHING");
        for (int value : INTS) {
            TwoTimesTable table = new TwoTimesTable();
            due.is("put of " + value, 1, table.state(Due.PUT, 0, value, 4, 5));
            due.is("value", value, table.value(0, 4, 0));
            due.is("has", true, table.has(0, 4, 0));
            due.is("sum", value, table.sum(0, 0, 32, 0));
            due.is("run's value", value, table.run(0, 0, 0, 2));
            due.is("row's value", value, table.row(0, 1));
            due.fails("insert on " + value, Due.STATE, () -> table.state(Due.INSERT, 0, 1, 4, 5));
            due.is("delete of " + value, 1, table.state(Due.DELETE, 0, value, 4, 5));
            due.is("has", false, table.has(0, 4, 0));
            due.fails("value", Due.ELEMENT, () -> table.value(0, 4, 0));
            due.is("rows", 0, table.rows());
        }
    }

    private static void atFirstThereIsNothing() {
        due.sentence("Terms", "At first there is nothing.");
        TwoTimesTable table = new TwoTimesTable();
        for (int key = 0; key < 4; key++) {
            for (int day = 0; day < 32; day++) {
                due.is("has", false, table.has(key, day, 0));
            }
            for (int kind = Due.UPDATE; kind <= Due.DELETE; kind++) {
                int any = kind;
                int of = key;
                due.fails("state " + kind, Due.ELEMENT, () -> table.state(any, of, 0, 0, 32));
            }
        }
        Due.tickTo(table, 39);
        due.is("rows at 39", 0, table.rows());
        due.is("has at 39", false, table.has(0, 0, 39));
    }

    private static void newTimeHasTheStateBefore() {
        due.sentence("Terms", "the state of the new time is that of the time before, until it is changed");
        TwoTimesTable table = new TwoTimesTable();
        table.state(Due.PUT, 0, -1, 0, 1);
        table.state(Due.PUT, 0, 0, 1, 2);
        table.state(Due.PUT, 3, Integer.MIN_VALUE, 31, 32);
        for (int time = 1; time <= 39; time++) {
            table.tick();
            due.is("value of day 0 at " + time, -1, table.value(0, 0, time));
            due.is("value of day 1 at " + time, 0, table.value(0, 1, time));
            due.is("has day 2 at " + time, false, table.has(0, 2, time));
            due.is("value of day 31 at " + time, Integer.MIN_VALUE, table.value(3, 31, time));
            due.is("runs at " + time, 2, table.runs(0, time));
        }
        due.is("rows", 3, table.rows());
        due.is("delete at 39", 2, table.state(Due.DELETE, 0, 0, 0, 32));
        due.is("has at 39", false, table.has(0, 0, 39));
        due.is("has at 38", true, table.has(0, 0, 38));
    }

    private static void presentTimeAloneIsChanged() {
        due.sentence("Terms", "what statements change is the state of the present time alone");
        TwoTimesTable table = new TwoTimesTable();
        for (int time = 0; time <= 39; time++) {
            Due.tickTo(table, time);
            table.state(Due.PUT, 1, time, 31, 32);
        }
        for (int time = 0; time <= 39; time++) {
            due.is("value at " + time, time, table.value(1, 31, time));
            due.is("sum at " + time, time, table.sum(1, 0, 32, time));
        }
        table.queue(Due.DELETE, 1, 0, 0, 32);
        table.queue(Due.PUT, 1, 99, 0, 1);
        table.commit();
        for (int time = 0; time <= 38; time++) {
            due.is("value at " + time + " behind a commit", time, table.value(1, 31, time));
            due.is("has at " + time + " behind a commit", false, table.has(1, 0, time));
        }
        due.is("has at 39", false, table.has(1, 31, 39));
        due.is("value at 39", 99, table.value(1, 0, 39));
    }

    private static void lastStatementAtATimeCounts() {
        due.sentence("Terms", "a time's state is what it was after the last statement at that time");
        TwoTimesTable table = new TwoTimesTable();
        for (int time = 0; time <= 3; time++) {
            Due.tickTo(table, time);
            table.state(Due.PUT, 0, 77, 0, 32);
            table.state(Due.DELETE, 0, 0, 0, 31);
            table.state(Due.ADD, 0, time, 0, 32);
        }
        for (int time = 0; time <= 3; time++) {
            due.is("sum at " + time, 77 + time, table.sum(0, 0, 32, time));
            due.is("runs at " + time, 1, table.runs(0, time));
        }
        due.is("rows", 4, table.rows());
    }

    private static void runsAreLongestPeriods() {
        due.sentence("Terms", "the longest periods in which it has the same value on all days");
        for (int from = 0; from < 32; from++) {
            for (int to = from + 1; to <= 32; to++) {
                TwoTimesTable table = new TwoTimesTable();
                for (int day = from; day < to; day++) {
                    table.state(Due.PUT, 0, 0, day, day + 1);
                }
                due.is("runs", 1, table.runs(0, 0));
                due.is("from", from, table.run(0, 0, 0, 0));
                due.is("to", to, table.run(0, 0, 0, 1));
            }
        }
        TwoTimesTable table = full();
        table.state(Due.PUT, 0, 1, 31, 32);
        due.is("to, before the last day", 31, table.run(0, 0, 0, 1));
        due.is("from of the last day", 31, table.run(0, 0, 1, 0));
        due.is("to of the last day", 32, table.run(0, 0, 1, 1));
        table.state(Due.PUT, 0, 10, 31, 32);
        due.is("together again", 1, table.runs(0, 0));
        table.state(Due.PUT, 0, 1, 0, 1);
        due.is("to of the first day", 1, table.run(0, 0, 0, 1));
        due.is("from behind it", 1, table.run(0, 0, 1, 0));
    }

    private static void runsAreNumberedFromTheFirstDay() {
        due.sentence("Terms", "they are numbered 0, 1, .. from the first day on");
        TwoTimesTable table = new TwoTimesTable();
        for (int day = 31; day >= 0; day--) {
            table.state(Due.PUT, 0, 100 - day, day, day + 1);
        }
        due.is("runs", 32, table.runs(0, 0));
        for (int k = 0; k < 32; k++) {
            due.is("from of run " + k, k, table.run(0, 0, k, 0));
            due.is("to of run " + k, k + 1, table.run(0, 0, k, 1));
            due.is("value of run " + k, 100 - k, table.run(0, 0, k, 2));
        }
    }

    private static void nothingMakesNoRun() {
        due.sentence("Terms", "(Nothing makes no run.)");
        TwoTimesTable table = new TwoTimesTable();
        due.is("runs of nothing", 0, table.runs(0, 0));
        table.state(Due.PUT, 0, 0, 0, 32);
        due.is("runs of 0 on all days", 1, table.runs(0, 0));
        for (int day = 1; day < 32; day += 2) {
            table.state(Due.DELETE, 0, 0, day, day + 1);
        }
        due.is("runs of 0 and nothing in turn", 16, table.runs(0, 0));
        for (int k = 0; k < 16; k++) {
            due.is("from", 2 * k, table.run(0, 0, k, 0));
            due.is("to", 2 * k + 1, table.run(0, 0, k, 1));
        }
        due.is("rows", 16, table.rows());
        table.state(Due.DELETE, 0, 0, 0, 32);
        due.is("runs of nothing again", 0, table.runs(0, 0));
    }

    private static void rowBeginsWhereTheRunWasNot() {
        due.sentence("Terms", "but not in that of begin less 1");
        TwoTimesTable table = new TwoTimesTable();
        table.state(Due.PUT, 0, 5, 4, 8);
        table.tick();
        due.is("the same run: rows", 1, table.rows());
        table.state(Due.PUT, 0, 6, 4, 8);
        row("another value", table, 1, 0, 6, 4, 8, 1, OPEN);
        table.tick();
        table.state(Due.PUT, 0, 6, 3, 4);
        row("from a day before", table, 2, 0, 6, 3, 8, 2, OPEN);
        table.tick();
        table.state(Due.PUT, 0, 6, 8, 9);
        row("to a day behind", table, 3, 0, 6, 3, 9, 3, OPEN);
        table.tick();
        table.state(Due.DELETE, 0, 0, 3, 4);
        row("without its first day", table, 4, 0, 6, 4, 9, 4, OPEN);
        table.tick();
        table.state(Due.DELETE, 0, 0, 8, 9);
        row("without its last day", table, 5, 0, 6, 4, 8, 5, OPEN);
        table.tick();
        table.state(Due.DELETE, 0, 0, 0, 32);
        table.tick();
        table.state(Due.PUT, 0, 6, 4, 8);
        row("where there was nothing", table, 6, 0, 6, 4, 8, 7, OPEN);
        due.is("rows", 7, table.rows());
    }

    private static void rowMayBeginAtTime0() {
        due.sentence("Terms", "(if there is such a time)");
        TwoTimesTable table = new TwoTimesTable();
        table.state(Due.PUT, 3, 0, 0, 32);
        due.is("rows", 1, table.rows());
        row("at time 0", table, 0, 3, 0, 0, 32, 0, OPEN);
        table.state(Due.PUT, 3, 1, 0, 32);
        due.is("rows", 1, table.rows());
        row("changed at time 0", table, 0, 3, 1, 0, 32, 0, OPEN);
    }

    private static void rowEndsWhereTheRunIsNot() {
        due.sentence("Terms", "nor, unless it is open, in that of end");
        for (int end = 1; end <= 39; end++) {
            TwoTimesTable table = new TwoTimesTable();
            table.state(Due.PUT, 0, 5, 0, 32);
            Due.tickTo(table, end);
            row("before it ends", table, 0, 0, 5, 0, 32, 0, OPEN);
            table.state(Due.DELETE, 0, 0, 31, 32);
            row("ended", table, 0, 0, 5, 0, 32, 0, end);
            row("begun", table, 1, 0, 5, 0, 31, end, OPEN);
        }
        TwoTimesTable again = new TwoTimesTable();
        again.state(Due.PUT, 0, 5, 0, 32);
        for (int time = 1; time <= 39; time++) {
            again.tick();
            again.state(time % 2 == 1 ? Due.DELETE : Due.PUT, 0, 5, 0, 32);
        }
        due.is("there and gone in turn: rows", 20, again.rows());
        for (int k = 0; k < 20; k++) {
            row("there and gone in turn", again, k, 0, 5, 0, 32, 2 * k, 2 * k + 1);
        }
    }

    private static void openRowGoesToThePresent() {
        due.sentence("Terms", "(to the present, for an open one)");
        TwoTimesTable table = new TwoTimesTable();
        table.state(Due.PUT, 0, 5, 0, 32);
        for (int time = 1; time <= 39; time++) {
            table.tick();
            due.is("rows at " + time, 1, table.rows());
            due.is("end at " + time, OPEN, table.row(0, 5));
        }
        table.state(Due.PUT, 1, 5, 0, 32);
        row("begun at 39", table, 1, 1, 5, 0, 32, 39, OPEN);
        table.state(Due.PUT, 0, 6, 0, 1);
        row("ended at 39", table, 0, 0, 5, 0, 32, 0, 39);
        row("begun at 39", table, 1, 0, 6, 0, 1, 39, OPEN);
        row("begun at 39", table, 2, 0, 5, 1, 32, 39, OPEN);
    }

    private static void rowsOfThePresentComeAndGo() {
        due.sentence("Terms", "There is a row for a key, a value, a period and two times just when");
        TwoTimesTable table = new TwoTimesTable();
        table.state(Due.PUT, 0, 5, 0, 32);
        table.tick();
        table.state(Due.DELETE, 0, 0, 0, 32);
        row("taken out", table, 0, 0, 5, 0, 32, 0, 1);
        due.is("taken out: rows", 1, table.rows());
        table.state(Due.INSERT, 0, 5, 0, 32);
        row("put in again", table, 0, 0, 5, 0, 32, 0, OPEN);
        due.is("put in again: rows", 1, table.rows());
        table.state(Due.PUT, 0, 6, 16, 17);
        due.is("divided: rows", 4, table.rows());
        table.state(Due.ADD, 0, -1, 16, 17);
        due.is("whole again: rows", 1, table.rows());
        table.state(Due.PUT, 1, 6, 16, 17);
        due.is("another key: rows", 2, table.rows());
        table.state(Due.DELETE, 1, 6, 0, 32);
        due.is("not said in the end: rows", 1, table.rows());
        row("all the time", table, 0, 0, 5, 0, 32, 0, OPEN);
    }

    private static void rowsAreNumberedByKeyBeginAndDay() {
        due.sentence("Terms", "Rows are numbered 0, 1, .. by their keys, those of one key by their begins, "
            + "those of one key and begin by the first days of their periods.");
        TwoTimesTable table = new TwoTimesTable();
        for (int time = 0; time <= 2; time++) {
            Due.tickTo(table, time);
            for (int key = 3; key >= 0; key--) {
                table.state(Due.PUT, key, 20 - time, 31 - 3 * time, 32 - 3 * time);
                table.state(Due.PUT, key, 50 - time, 3 * time, 3 * time + 1);
            }
        }
        due.is("rows", 24, table.rows());
        for (int k = 0; k < 24; k++) {
            int begin = k % 6 / 2;
            int from = k % 2 == 0 ? 3 * begin : 31 - 3 * begin;
            row("in order", table, k, k / 6, (k % 2 == 0 ? 50 : 20) - begin, from, from + 1, begin, OPEN);
        }
    }
}
