/** The edges that promises 1 to 3 and 8 to 17 name: one test a sentence, the sentence written with it. */
public final class QuestionEdgesTest {
    private static final Due due = new Due();
    private static final int NONE = TwoTimesTable.NONE;

    public static void main(String[] args) {
        newObject();
        tickGoesOnBy1();
        tickIsRefusedAt39();
        refusedTickChangesNothing();
        clockIsChangedByTicksAlone();
        valueOnWrongInputs();
        valueOfNothing();
        hasIsFalseOnWrongInputs();
        sumIsALong();
        sumOnWrongInputs();
        runsOfNoneAndOfMost();
        runsOnWrongInputs();
        partsOfARun();
        runOnWrongInputs();
        noSuchRunIsLookedAtLast();
        rowsOfNoneAndOfMost();
        partsOfARow();
        endOfARow();
        rowOnWrongPart();
        noSuchRow();
        changesAreFromOneTimeToTheNext();
        everyWayToChange();
        changesOnWrongInputs();
        everyRelationAtItsEdges();
        otherRelationsAre12LessR();
        relationOfNoPeriod();
        joinOfNoneAndOfMost();
        joinOfOneKeyWithItself();
        joinOnWrongInputs();
        questionsChangeNothing();
        due.end("QuestionEdgesTest");
    }

    /** Key 0 has 7 on day 0 and -1 on day 31, key 3 has 0 on all days; the clock shows 2. */
    private static TwoTimesTable sample() {
        TwoTimesTable table = new TwoTimesTable();
        table.state(Due.PUT, 0, 7, 0, 1);
        table.tick();
        table.state(Due.PUT, 3, 0, 0, 32);
        table.tick();
        table.state(Due.PUT, 0, -1, 31, 32);
        return table;
    }

    private static void newObject() {
        due.sentence("Promise 1", "The clock shows 0; there is nothing; no statements wait.");
        TwoTimesTable table = new TwoTimesTable();
        due.is("clock()", 0, table.clock());
        due.is("rows()", 0, table.rows());
        due.is("failed()", NONE, table.failed());
        due.fails("row(0, 0)", Due.INDEX, () -> table.row(0, 0));
        for (int key = 0; key < 4; key++) {
            int of = key;
            due.is("runs", 0, table.runs(key, 0));
            due.is("sum", 0, table.sum(key, 0, 32, 0));
            due.fails("run", Due.INDEX, () -> table.run(of, 0, 0, 0));
            due.fails("value", Due.ELEMENT, () -> table.value(of, 31, 0));
            due.is("changes", 0, table.changes(key, 31));
            due.is("join", 0, table.join(key, key, 0, 6));
        }
        due.is("commit()", 0, table.commit());
        for (int number = 0; number < 8; number++) {
            due.is("queue", true, table.queue(Due.PUT, 0, 1, 0, 1));
        }
        due.is("queue of a ninth", false, table.queue(Due.PUT, 0, 1, 0, 1));
    }

    private static void tickGoesOnBy1() {
        due.sentence("Promise 2", "The clock goes on by 1; answers what it shows.");
        TwoTimesTable table = new TwoTimesTable();
        for (int time = 1; time <= 39; time++) {
            due.is("tick()", time, table.tick());
        }
        due.is("clock()", 39, table.clock());
    }

    private static void tickIsRefusedAt39() {
        due.sentence("Promise 2", "IllegalStateException when it shows 39.");
        TwoTimesTable table = new TwoTimesTable();
        Due.tickTo(table, 38);
        due.is("tick() at 38", 39, table.tick());
        for (int again = 0; again < 50; again++) {
            due.fails("tick() at 39", Due.STATE, table::tick);
            due.is("clock()", 39, table.clock());
        }
        due.is("a statement at 39", 32, table.state(Due.INSERT, 0, 1, 0, 32));
        due.fails("tick() behind it", Due.STATE, table::tick);
        due.is("value at 39", 1, table.value(0, 31, 39));
        table.queue(Due.ADD, 0, 1, 0, 32);
        due.fails("tick() while one waits", Due.STATE, table::tick);
        due.is("commit at 39", 32, table.commit());
        due.is("failed", NONE, table.failed());
    }

    private static TwoTimesTable atTheEnd() {
        TwoTimesTable table = sample();
        Due.tickTo(table, 39);
        table.state(Due.PUT, 1, 5, 0, 16);
        return table;
    }

    private static void refusedTickChangesNothing() {
        due.sentence("Promise 2", "IllegalStateException when it shows 39.");
        Twins.areAlike(due, "behind a refused tick()", QuestionEdgesTest::atTheEnd, () -> {
            TwoTimesTable table = atTheEnd();
            due.fails("tick()", Due.STATE, table::tick);
            return table;
        });
    }

    private static void clockIsChangedByTicksAlone() {
        due.sentence("Promise 3", "What the clock shows.");
        TwoTimesTable table = sample();
        due.is("clock()", 2, table.clock());
        table.state(Due.PUT, 0, 1, 0, 32);
        table.queue(Due.PUT, 0, 1, 0, 32);
        table.commit();
        due.fails("state", Due.ARGUMENT, () -> table.state(9, 0, 1, 0, 32));
        due.is("clock()", 2, table.clock());
        table.tick();
        due.is("clock()", 3, table.clock());
    }

    private static void valueOnWrongInputs() {
        due.sentence("Promise 8", "IllegalArgumentException when there is no such key or day, "
            + "or the time is not 0 .. the present one");
        TwoTimesTable table = sample();
        due.is("value at 0", 7, table.value(0, 0, 0));
        due.is("value at 2", 7, table.value(0, 0, 2));
        for (int wrong : Due.outside(4)) {
            due.fails("key " + wrong, Due.ARGUMENT, () -> table.value(wrong, 0, 2));
        }
        for (int wrong : Due.outside(32)) {
            due.fails("day " + wrong, Due.ARGUMENT, () -> table.value(3, wrong, 2));
        }
        for (int wrong : Due.outside(3)) {
            due.fails("time " + wrong, Due.ARGUMENT, () -> table.value(0, 0, wrong));
            due.fails("time " + wrong + ", where nothing is", Due.ARGUMENT, () -> table.value(1, 0, wrong));
            due.fails("all wrong", Due.ARGUMENT, () -> table.value(-1, -1, wrong));
        }
        for (int time = 3; time <= 39; time++) {
            int next = time;
            due.fails("before the clock shows " + time, Due.ARGUMENT, () -> table.value(0, 0, next));
            table.tick();
            due.is("when it shows " + time, 7, table.value(0, 0, time));
        }
    }

    private static void valueOfNothing() {
        due.sentence("Promise 8", "NoSuchElementException when it has nothing.");
        TwoTimesTable table = sample();
        due.fails("beside a value", Due.ELEMENT, () -> table.value(0, 1, 2));
        due.fails("beside the last day", Due.ELEMENT, () -> table.value(0, 30, 2));
        due.fails("at a time before", Due.ELEMENT, () -> table.value(0, 31, 1));
        due.fails("at the first time", Due.ELEMENT, () -> table.value(3, 0, 0));
        due.fails("another key", Due.ELEMENT, () -> table.value(1, 0, 2));
        due.is("0 is not nothing", 0, table.value(3, 0, 1));
        due.is("nor is -1", -1, table.value(0, 31, 2));
        table.state(Due.DELETE, 3, 0, 0, 32);
        due.fails("taken out", Due.ELEMENT, () -> table.value(3, 0, 2));
        due.is("not at the time before", 0, table.value(3, 0, 1));
    }

    private static void hasIsFalseOnWrongInputs() {
        due.sentence("Promise 9", "false, too, when there is no such key, day or time");
        TwoTimesTable table = new TwoTimesTable();
        for (int key = 0; key < 4; key++) {
            table.state(Due.PUT, key, 1, 0, 32);
        }
        table.tick();
        for (int wrong : Due.outside(4)) {
            due.is("key " + wrong, false, table.has(wrong, 0, 0));
        }
        for (int wrong : Due.outside(32)) {
            due.is("day " + wrong, false, table.has(0, wrong, 0));
            due.is("day " + wrong + " of the last", false, table.has(3, wrong, 1));
        }
        for (int wrong : Due.outside(2)) {
            due.is("time " + wrong, false, table.has(0, 0, wrong));
            due.is("all wrong", false, table.has(wrong + 40, wrong + 40, wrong));
        }
        for (int key = 0; key < 4; key++) {
            due.is("first day and time", true, table.has(key, 0, 0));
            due.is("last day and time", true, table.has(key, 31, 1));
        }
        for (int time = 2; time <= 39; time++) {
            due.is("before the clock shows " + time, false, table.has(3, 31, time));
            table.tick();
            due.is("when it shows " + time, true, table.has(3, 31, time));
        }
    }

    private static void sumIsALong() {
        due.sentence("Promise 10", "The sum of the values of a key over the days of a period, in the state of a time.");
        TwoTimesTable table = new TwoTimesTable();
        due.is("of nothing", 0, table.sum(0, 0, 32, 0));
        table.state(Due.PUT, 0, Integer.MAX_VALUE, 0, 32);
        table.state(Due.PUT, 1, Integer.MIN_VALUE, 0, 32);
        due.is("of two of the largest", 2L * Integer.MAX_VALUE, table.sum(0, 30, 32, 0));
        due.is("of the largest", 32L * Integer.MAX_VALUE, table.sum(0, 0, 32, 0));
        due.is("of two of the smallest", 2L * Integer.MIN_VALUE, table.sum(1, 0, 2, 0));
        due.is("of the smallest", 32L * Integer.MIN_VALUE, table.sum(1, 0, 32, 0));
        for (int day = 0; day < 31; day++) {
            table.state(Due.PUT, 2, 1 << day, day, day + 1);
        }
        for (int from = 0; from < 8; from++) {
            for (int to = 25; to <= 32; to++) {
                long want = (1L << Math.min(to, 31)) - (1L << from);
                due.is("sum " + from + ", " + to, want, table.sum(2, from, to, 0));
            }
        }
        table.tick();
        table.state(Due.DELETE, 0, 0, 0, 31);
        due.is("without what was taken out", Integer.MAX_VALUE, table.sum(0, 0, 32, 1));
        due.is("of a time before", 32L * Integer.MAX_VALUE, table.sum(0, 0, 32, 0));
        due.is("of days with nothing", 0, table.sum(0, 0, 31, 1));
    }

    private static void sumOnWrongInputs() {
        due.sentence("Promise 10", "IllegalArgumentException when there is no such key, period or time.");
        TwoTimesTable table = sample();
        for (int wrong : Due.outside(4)) {
            due.fails("key " + wrong, Due.ARGUMENT, () -> table.sum(wrong, 0, 32, 2));
        }
        for (int wrong : Due.outside(33)) {
            due.fails("to " + wrong, Due.ARGUMENT, () -> table.sum(3, 0, wrong, 2));
            due.fails("from " + wrong, Due.ARGUMENT, () -> table.sum(3, wrong, 32, 2));
        }
        for (int day = 0; day <= 32; day++) {
            int at = day;
            due.fails("no day", Due.ARGUMENT, () -> table.sum(3, at, at, 2));
            due.fails("turned", Due.ARGUMENT, () -> table.sum(3, at, at - 1, 2));
        }
        for (int wrong : Due.outside(3)) {
            due.fails("time " + wrong, Due.ARGUMENT, () -> table.sum(3, 0, 32, wrong));
        }
        due.is("first time", 7, table.sum(0, 0, 32, 0));
        due.is("present time", 6, table.sum(0, 0, 32, 2));
    }

    private static void runsOfNoneAndOfMost() {
        due.sentence("Promise 11", "How many runs a key has in the state of a time.");
        TwoTimesTable table = new TwoTimesTable();
        due.is("none", 0, table.runs(0, 0));
        table.tick();
        table.state(Due.PUT, 0, 1, 0, 32);
        due.is("one", 1, table.runs(0, 1));
        table.tick();
        for (int day = 1; day < 32; day += 2) {
            table.state(Due.PUT, 0, 2, day, day + 1);
            due.is("runs", day == 31 ? 32 : day + 2, table.runs(0, 2));
        }
        due.is("none at 0", 0, table.runs(0, 0));
        due.is("one at 1", 1, table.runs(0, 1));
        due.is("32 at 2", 32, table.runs(0, 2));
        due.is("none of another key", 0, table.runs(1, 2));
    }

    private static void runsOnWrongInputs() {
        due.sentence("Promise 11", "IllegalArgumentException when there is no such key or time.");
        TwoTimesTable table = sample();
        for (int wrong : Due.outside(4)) {
            due.fails("key " + wrong, Due.ARGUMENT, () -> table.runs(wrong, 0));
        }
        for (int wrong : Due.outside(3)) {
            due.fails("time " + wrong, Due.ARGUMENT, () -> table.runs(3, wrong));
        }
        due.is("first time", 1, table.runs(0, 0));
        due.is("present time", 2, table.runs(0, 2));
    }

    private static void partsOfARun() {
        due.sentence("Promise 12", "Run k of it: part 0 from, 1 to, 2 the value.");
        int[] values = {Integer.MIN_VALUE, -1, 0, Integer.MAX_VALUE};
        for (int value : values) {
            TwoTimesTable table = new TwoTimesTable();
            table.state(Due.PUT, 1, value, 0, 32);
            due.is("from", 0, table.run(1, 0, 0, 0));
            due.is("to", 32, table.run(1, 0, 0, 1));
            due.is("value", value, table.run(1, 0, 0, 2));
            table.state(Due.DELETE, 1, 0, 1, 31);
            due.is("first, from", 0, table.run(1, 0, 0, 0));
            due.is("first, to", 1, table.run(1, 0, 0, 1));
            due.is("last, from", 31, table.run(1, 0, 1, 0));
            due.is("last, to", 32, table.run(1, 0, 1, 1));
            due.is("last, value", value, table.run(1, 0, 1, 2));
        }
    }

    private static void runOnWrongInputs() {
        due.sentence("Promise 12", "IllegalArgumentException when there is no such key, time or part");
        TwoTimesTable table = sample();
        for (int wrong : Due.outside(4)) {
            due.fails("key " + wrong, Due.ARGUMENT, () -> table.run(wrong, 0, 0, 0));
        }
        for (int wrong : Due.outside(3)) {
            due.fails("time " + wrong, Due.ARGUMENT, () -> table.run(0, wrong, 0, 0));
            due.fails("part " + wrong, Due.ARGUMENT, () -> table.run(0, 0, 0, wrong));
        }
    }

    private static void noSuchRunIsLookedAtLast() {
        due.sentence("Promise 12", "IndexOutOfBoundsException when there is no such run (this is looked at last)");
        TwoTimesTable table = sample();
        for (int wrong : Due.outside(2)) {
            for (int part = 0; part < 3; part++) {
                int any = part;
                due.fails("run " + wrong, Due.INDEX, () -> table.run(0, 2, wrong, any));
            }
            due.fails("run " + wrong + ", no such key", Due.ARGUMENT, () -> table.run(4, 2, wrong, 0));
            due.fails("run " + wrong + ", no such time", Due.ARGUMENT, () -> table.run(0, 3, wrong, 0));
            due.fails("run " + wrong + ", no such part", Due.ARGUMENT, () -> table.run(0, 2, wrong, 3));
        }
        due.is("run 1 now", 31, table.run(0, 2, 1, 0));
        due.fails("run 1 at the time before", Due.INDEX, () -> table.run(0, 1, 1, 0));
        due.fails("run 0 of nothing", Due.INDEX, () -> table.run(1, 2, 0, 0));
        TwoTimesTable full = new TwoTimesTable();
        Due.fillWithSingleDays(full, 0);
        due.is("run 31", 31, full.run(0, 0, 31, 0));
        due.fails("run 32", Due.INDEX, () -> full.run(0, 0, 32, 0));
        due.fails("run -1", Due.INDEX, () -> full.run(0, 0, -1, 0));
    }

    private static void rowsOfNoneAndOfMost() {
        due.sentence("Promise 13", "How many rows there are.");
        TwoTimesTable table = new TwoTimesTable();
        due.is("none", 0, table.rows());
        Due.tickTo(table, 39);
        due.is("none by ticks", 0, table.rows());
        due.is("the most, of four keys", 150, Due.with150Rows().rows());
        TwoTimesTable one = Due.with128Rows();
        one.state(Due.ADD, 0, 1, 10, 32);
        due.is("the most, of one key", 150, one.rows());
        TwoTimesTable last = new TwoTimesTable();
        for (int key = 0; key < 4; key++) {
            Due.fillWithSingleDays(last, key);
            due.is("rows of one time", 32 * (key + 1), last.rows());
        }
    }

    private static void partsOfARow() {
        due.sentence("Promise 14", "Row k: part 0 the key, 1 the value, 2 from, 3 to, 4 begin, 5 end");
        TwoTimesTable table = Due.with150Rows();
        int[] first = {0, 0, 0, 32, 0, 1};
        int[] lastOfKey0 = {0, 37, 0, 32, 37, NONE};
        int[] firstOfKey1 = {1, 0, 0, 32, 0, 1};
        int[] last = {3, 36, 0, 32, 36, NONE};
        for (int part = 0; part < 6; part++) {
            due.is("row(0, " + part + ")", first[part], table.row(0, part));
            due.is("row(37, " + part + ")", lastOfKey0[part], table.row(37, part));
            due.is("row(38, " + part + ")", firstOfKey1[part], table.row(38, part));
            due.is("row(149, " + part + ")", last[part], table.row(149, part));
        }
        TwoTimesTable odd = new TwoTimesTable();
        Due.tickTo(odd, 39);
        odd.state(Due.PUT, 3, Integer.MIN_VALUE, 31, 32);
        int[] only = {3, Integer.MIN_VALUE, 31, 32, 39, NONE};
        for (int part = 0; part < 6; part++) {
            due.is("row(0, " + part + ")", only[part], odd.row(0, part));
        }
    }

    private static void endOfARow() {
        due.sentence("Promise 14", "5 end (NONE when it is open)");
        TwoTimesTable table = new TwoTimesTable();
        table.state(Due.PUT, 0, 1, 0, 4);
        due.is("open", NONE, table.row(0, 5));
        table.tick();
        due.is("open", NONE, table.row(0, 5));
        table.state(Due.ADD, 0, 1, 0, 4);
        due.is("ended at 1", 1, table.row(0, 5));
        due.is("open", NONE, table.row(1, 5));
        table.state(Due.ADD, 0, -1, 0, 4);
        due.is("open again", NONE, table.row(0, 5));
        Due.tickTo(table, 39);
        due.is("open to 39", NONE, table.row(0, 5));
        table.state(Due.DELETE, 0, 0, 0, 1);
        due.is("ended at 39", 39, table.row(0, 5));
    }

    private static void rowOnWrongPart() {
        due.sentence("Promise 14", "IllegalArgumentException when there is no such part");
        TwoTimesTable table = sample();
        for (int wrong : Due.outside(6)) {
            for (int k = 0; k < 3; k++) {
                int any = k;
                due.fails("part " + wrong, Due.ARGUMENT, () -> table.row(any, wrong));
            }
        }
        TwoTimesTable empty = new TwoTimesTable();
        due.fails("no part 6 of no row 0", Due.ARGUMENT, () -> empty.row(0, 6));
    }

    private static void noSuchRow() {
        due.sentence("Promise 14", "IndexOutOfBoundsException when there is no such row.");
        TwoTimesTable table = sample();
        due.is("rows", 3, table.rows());
        for (int wrong : Due.outside(3)) {
            for (int part = 0; part < 6; part++) {
                int any = part;
                due.fails("row " + wrong, Due.INDEX, () -> table.row(wrong, any));
            }
        }
        due.is("the last row", 3, table.row(2, 0));
        TwoTimesTable empty = new TwoTimesTable();
        due.fails("row 0 of none", Due.INDEX, () -> empty.row(0, 5));
        TwoTimesTable full = Due.with150Rows();
        due.is("row 149", 3, full.row(149, 0));
        due.fails("row 150", Due.INDEX, () -> full.row(150, 0));
    }

    private static void changesAreFromOneTimeToTheNext() {
        due.sentence("Promise 15",
            "How often, in all, what the state has for a key on a day changed from one time to the next");
        TwoTimesTable table = new TwoTimesTable();
        due.is("none", 0, table.changes(0, 31));
        table.state(Due.PUT, 0, 1, 31, 32);
        due.is("no time is before time 0", 0, table.changes(0, 31));
        table.tick();
        table.state(Due.PUT, 0, 2, 31, 32);
        table.state(Due.PUT, 0, 3, 31, 32);
        due.is("twice at one time is one", 1, table.changes(0, 31));
        table.state(Due.PUT, 0, 1, 31, 32);
        due.is("there and back is none", 0, table.changes(0, 31));
        table.state(Due.DELETE, 0, 1, 31, 32);
        table.state(Due.INSERT, 0, 1, 31, 32);
        due.is("out and in again is none", 0, table.changes(0, 31));
        for (int time = 2; time <= 39; time++) {
            table.tick();
            table.state(Due.PUT, 0, time, 31, 32);
            due.is("changes at " + time, time - 1, table.changes(0, 31));
        }
        due.is("of another day", 0, table.changes(0, 30));
        due.is("of another key", 0, table.changes(1, 31));
        TwoTimesTable most = new TwoTimesTable();
        for (int time = 1; time <= 39; time++) {
            most.tick();
            most.state(time % 2 == 1 ? Due.INSERT : Due.DELETE, 3, 0, 0, 1);
        }
        due.is("the most", 39, most.changes(3, 0));
        due.is("beside it", 0, most.changes(3, 1));
    }

    private static void everyWayToChange() {
        due.sentence("Promise 15", "(another value, one where there was nothing, or nothing where there was one)");
        int[] values = {Integer.MIN_VALUE, -1, 0, 1, Integer.MAX_VALUE};
        for (int value : values) {
            TwoTimesTable table = new TwoTimesTable();
            table.tick();
            table.state(Due.PUT, 2, value, 0, 1);
            due.is(value + " where there was nothing", 1, table.changes(2, 0));
            table.tick();
            due.is("the same", 1, table.changes(2, 0));
            table.state(Due.ADD, 2, Integer.MIN_VALUE, 0, 1);
            due.is("another value", 2, table.changes(2, 0));
            table.tick();
            table.state(Due.PUT, 2, value, 0, 1);
            due.is(value + " again", 3, table.changes(2, 0));
            table.tick();
            table.state(Due.DELETE, 2, 0, 0, 1);
            due.is("nothing where there was " + value, 4, table.changes(2, 0));
            table.tick();
            due.is("nothing where there was nothing", 4, table.changes(2, 0));
        }
    }

    private static void changesOnWrongInputs() {
        due.sentence("Promise 15", "IllegalArgumentException when there is no such key or day.");
        TwoTimesTable table = sample();
        for (int wrong : Due.outside(4)) {
            due.fails("key " + wrong, Due.ARGUMENT, () -> table.changes(wrong, 0));
        }
        for (int wrong : Due.outside(32)) {
            due.fails("day " + wrong, Due.ARGUMENT, () -> table.changes(3, wrong));
        }
        due.is("first key and day", 0, table.changes(0, 0));
        due.is("last key and day", 1, table.changes(3, 31));
    }

    /** Each row: the relation, and two periods that are just so. */
    private static final int[][] RELATIONS = {
        {0, 0, 1, 2, 3}, {0, 0, 1, 31, 32}, {0, 0, 30, 31, 32}, {0, 5, 9, 10, 32},
        {1, 0, 1, 1, 2}, {1, 0, 31, 31, 32}, {1, 0, 1, 1, 32}, {1, 5, 9, 9, 10},
        {2, 0, 2, 1, 3}, {2, 0, 31, 30, 32}, {2, 0, 31, 1, 32}, {2, 4, 6, 5, 9},
        {3, 0, 1, 0, 2}, {3, 0, 31, 0, 32}, {3, 0, 1, 0, 32}, {3, 30, 31, 30, 32},
        {4, 1, 2, 0, 3}, {4, 1, 31, 0, 32}, {4, 30, 31, 29, 32}, {4, 1, 2, 0, 32},
        {5, 1, 2, 0, 2}, {5, 31, 32, 0, 32}, {5, 31, 32, 30, 32}, {5, 1, 32, 0, 32},
        {6, 0, 1, 0, 1}, {6, 31, 32, 31, 32}, {6, 0, 32, 0, 32}, {6, 7, 9, 7, 9},
    };

    private static final String[] RELATION_SENTENCES = {
        "0 it ends before the other begins, with days between",
        "1 it ends where the other begins",
        "2 it begins first, and ends within the other (behind its beginning, before its end)",
        "3 it begins with the other and ends before it",
        "4 it begins behind the other and ends before it",
        "5 it begins behind the other and they end together",
        "6 they are the same",
    };

    private static void everyRelationAtItsEdges() {
        TwoTimesTable table = new TwoTimesTable();
        for (int[] r : RELATIONS) {
            due.sentence("Promise 16", RELATION_SENTENCES[r[0]]);
            due.is("relation(" + r[1] + ", " + r[2] + ", " + r[3] + ", " + r[4] + ")", r[0],
                table.relation(r[1], r[2], r[3], r[4]));
        }
    }

    private static void otherRelationsAre12LessR() {
        due.sentence("Promise 16", "and 12 - r when the other one lies to it as r says");
        TwoTimesTable table = new TwoTimesTable();
        for (int[] r : RELATIONS) {
            due.is("relation(" + r[3] + ", " + r[4] + ", " + r[1] + ", " + r[2] + ")", 12 - r[0],
                table.relation(r[3], r[4], r[1], r[2]));
        }
    }

    private static void relationOfNoPeriod() {
        due.sentence("Promise 16", "IllegalArgumentException when one is no period.");
        TwoTimesTable table = new TwoTimesTable();
        int[][] none = {{0, 0}, {32, 32}, {16, 16}, {1, 0}, {32, 31}, {-1, 0}, {-1, 1}, {-1, 32}, {31, 33}, {32, 33},
            {0, 33}, {33, 34}, {-2, -1}, {Integer.MIN_VALUE, Integer.MAX_VALUE}, {0, Integer.MAX_VALUE},
            {Integer.MIN_VALUE, 32}, {Integer.MAX_VALUE, Integer.MIN_VALUE}};
        for (int[] p : none) {
            due.fails("of " + p[0] + ", " + p[1], Due.ARGUMENT, () -> table.relation(p[0], p[1], 0, 32));
            due.fails("to " + p[0] + ", " + p[1], Due.ARGUMENT, () -> table.relation(0, 32, p[0], p[1]));
            due.fails("both " + p[0] + ", " + p[1], Due.ARGUMENT, () -> table.relation(p[0], p[1], p[0], p[1]));
        }
        due.is("both at their edges", 6, table.relation(0, 32, 0, 32));
    }

    private static void joinOfNoneAndOfMost() {
        due.sentence("Promise 17", "How many pairs of a run of one key and a run of another one "
            + "(or the same one) there are, in the state of a time, of which the first lies to the second as r says.");
        TwoTimesTable table = new TwoTimesTable();
        table.tick();
        Due.fillWithSingleDays(table, 0);
        Due.fillWithSingleDays(table, 3);
        int[] most = {465, 31, 0, 0, 0, 0, 32, 0, 0, 0, 0, 31, 465};
        for (int r = 0; r <= 12; r++) {
            due.is("none at 0: " + r, 0, table.join(0, 3, 0, r));
            due.is("none of a key with nothing: " + r, 0, table.join(1, 3, 1, r));
            due.is("none with a key with nothing: " + r, 0, table.join(0, 2, 1, r));
            due.is("32 and 32 runs: " + r, most[r], table.join(0, 3, 1, r));
        }
        table.tick();
        table.state(Due.PUT, 3, 1, 0, 32);
        int[] within = {0, 0, 0, 1, 30, 1, 0, 0, 0, 0, 0, 0, 0};
        for (int r = 0; r <= 12; r++) {
            due.is("32 runs and one over all: " + r, within[r], table.join(0, 3, 2, r));
            due.is("one over all and 32 runs: " + r, within[12 - r], table.join(3, 0, 2, r));
            due.is("still at 1: " + r, most[r], table.join(0, 3, 1, r));
        }
    }

    private static void joinOfOneKeyWithItself() {
        due.sentence("Promise 17", "a run of another one (or the same one)");
        TwoTimesTable table = new TwoTimesTable();
        table.state(Due.PUT, 2, 1, 0, 32);
        for (int r = 0; r <= 12; r++) {
            due.is("one run: " + r, r == 6 ? 1 : 0, table.join(2, 2, 0, r));
        }
        table.state(Due.DELETE, 2, 1, 1, 31);
        int[] two = {1, 0, 0, 0, 0, 0, 2, 0, 0, 0, 0, 0, 1};
        for (int r = 0; r <= 12; r++) {
            due.is("first and last day: " + r, two[r], table.join(2, 2, 0, r));
        }
    }

    private static void joinOnWrongInputs() {
        due.sentence("Promise 17", "IllegalArgumentException when there is no such key or time, or r is not 0 .. 12.");
        TwoTimesTable table = sample();
        for (int wrong : Due.outside(4)) {
            due.fails("key " + wrong, Due.ARGUMENT, () -> table.join(wrong, 0, 2, 6));
            due.fails("other " + wrong, Due.ARGUMENT, () -> table.join(0, wrong, 2, 6));
        }
        for (int wrong : Due.outside(3)) {
            due.fails("time " + wrong, Due.ARGUMENT, () -> table.join(0, 0, wrong, 6));
            due.fails("time " + wrong + " of keys with nothing", Due.ARGUMENT, () -> table.join(1, 2, wrong, 6));
        }
        for (int wrong : Due.outside(13)) {
            due.fails("r " + wrong, Due.ARGUMENT, () -> table.join(0, 0, 2, wrong));
            due.fails("r " + wrong + " of keys with nothing", Due.ARGUMENT, () -> table.join(1, 2, 2, wrong));
        }
        due.is("r 0", 1, table.join(0, 0, 2, 0));
        due.is("r 12", 1, table.join(0, 0, 2, 12));
    }

    private static void questionsChangeNothing() {
        due.sentence("Not promised", "Nothing is promised beyond the answers and state changes described above");
        Twins.areAlike(due, "behind questions", QuestionEdgesTest::sample, () -> {
            TwoTimesTable table = sample();
            for (int number = -1; number <= 3; number++) {
                int any = number;
                ignore(() -> table.value(any, any, any));
                ignore(() -> table.has(any, any, any) ? 1 : 0);
                ignore(() -> table.sum(any, any, any + 1, any));
                ignore(() -> table.runs(any, any));
                ignore(() -> table.run(any, any, any, any));
                ignore(() -> table.row(any, any));
                ignore(() -> table.changes(any, any));
                ignore(() -> table.relation(any, any + 1, any, any + 2));
                ignore(() -> table.join(any, any, any, any));
                ignore(table::failed);
            }
            return table;
        });
    }

    private static void ignore(java.util.function.LongSupplier call) {
        try {
            call.getAsLong();
        } catch (RuntimeException e) {
            return;
        }
    }
}
