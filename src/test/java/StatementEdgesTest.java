import java.util.function.Consumer;
import java.util.function.Supplier;

/** The edges that "Terms" names for statements, and promises 4 to 7: one test a sentence. */
public final class StatementEdgesTest {
    private static final Due due = new Due();
    private static final int NONE = TwoTimesTable.NONE;
    private static final int[] INTS = {Integer.MIN_VALUE, Integer.MIN_VALUE + 1, -1, 0, 1, 5, Integer.MAX_VALUE};

    public static void main(String[] args) {
        putOnAllOfThem();
        insertMustMeetNothing();
        updateWhereThereIsAValue();
        addWraps();
        addWhereThereIsAValue();
        deleteTakesNoValue();
        wrongKindKeyOrPeriodFails();
        nothingToChangeFails();
        insertOnAValueFails();
        moreThan150RowsFail();
        rowsBehindAStatementCount();
        everyKindIsHeldTo150Rows();
        failuresAreLookedAtInOrder();
        failedStatementChangesNothing();
        answerIsTheDaysThatAreOther();
        queueIsNotLookedAt();
        queueIsFalseWhenEightWait();
        queueWaitsBehindThoseThatWait();
        commitOfNone();
        commitIsInOrder();
        commitIsAllOrNone();
        commitFailsAsTheStatement();
        commitIsHeldTo150Rows();
        noneWaitsBehindACommit();
        commitAnswersTheSum();
        failedTellsTheNumber();
        failedIsNoneOtherwise();
        due.end("StatementEdgesTest");
    }

    private static TwoTimesTable with(int key, int value, int from, int to) {
        TwoTimesTable table = new TwoTimesTable();
        table.state(Due.PUT, key, value, from, to);
        return table;
    }

    private static void putOnAllOfThem() {
        due.sentence("Terms", "0 PUT: it has the value on all of them.");
        for (int value : INTS) {
            TwoTimesTable table = with(0, 5, 10, 20);
            table.state(Due.PUT, 0, value, 0, 32);
            for (int day = 0; day < 32; day++) {
                due.is("put of " + value + " on day " + day, value, table.value(0, day, 0));
            }
        }
    }

    private static void insertMustMeetNothing() {
        due.sentence("Terms", "1 INSERT: likewise, but it must have nothing on all of them.");
        for (int day = 0; day < 32; day++) {
            TwoTimesTable table = with(0, 0, day, day + 1);
            if (day > 0) {
                due.is("insert before day " + day, day, table.state(Due.INSERT, 0, 1, 0, day));
            }
            if (day < 31) {
                due.is("insert behind day " + day, 31 - day, table.state(Due.INSERT, 0, 1, day + 1, 32));
            }
            due.is("sum", 31, table.sum(0, 0, 32, 0));
            due.is("insert of another key", 32, table.state(Due.INSERT, 1, 1, 0, 32));
        }
        TwoTimesTable later = with(0, 1, 0, 32);
        later.tick();
        later.state(Due.DELETE, 0, 0, 0, 32);
        due.is("insert where there was one at another time", 32, later.state(Due.INSERT, 0, 1, 0, 32));
    }

    private static void updateWhereThereIsAValue() {
        due.sentence("Terms", "2 UPDATE: on those days on which it has a value it has the one given.");
        for (int value : INTS) {
            for (int day = 0; day < 32; day++) {
                TwoTimesTable table = with(0, 9, day, day + 1);
                due.is("update to " + value, 1, table.state(Due.UPDATE, 0, value, 0, 32));
                due.is("value", value, table.value(0, day, 0));
                due.is("runs", 1, table.runs(0, 0));
                due.is("to", day + 1, table.run(0, 0, 0, 1));
            }
        }
    }

    private static void addWraps() {
        due.sentence("Terms", "3 ADD: the value given is added to those that it has there (ints wrap).");
        for (int value : INTS) {
            for (int added : INTS) {
                TwoTimesTable table = with(0, value, 31, 32);
                due.is(value + " + " + added, added == 0 ? 0 : 1, table.state(Due.ADD, 0, added, 0, 32));
                due.is(value + " + " + added, (int) ((long) value + added), table.value(0, 31, 0));
            }
        }
        TwoTimesTable up = with(0, Integer.MAX_VALUE, 0, 32);
        up.state(Due.ADD, 0, 1, 0, 32);
        due.is("the largest and 1", Integer.MIN_VALUE, up.value(0, 0, 0));
        due.is("sum", 32L * Integer.MIN_VALUE, up.sum(0, 0, 32, 0));
        up.state(Due.ADD, 0, -1, 0, 32);
        due.is("the smallest less 1", Integer.MAX_VALUE, up.value(0, 31, 0));
        TwoTimesTable twice = with(0, Integer.MIN_VALUE, 0, 1);
        twice.state(Due.ADD, 0, Integer.MIN_VALUE, 0, 1);
        due.is("the smallest twice", 0, twice.value(0, 0, 0));
        due.is("0 is a value", true, twice.has(0, 0, 0));
    }

    private static void addWhereThereIsAValue() {
        due.sentence("Terms", "added to those that it has there");
        for (int day = 0; day < 32; day++) {
            TwoTimesTable table = with(0, -4, day, day + 1);
            due.is("add", 1, table.state(Due.ADD, 0, 4, 0, 32));
            due.is("value", 0, table.value(0, day, 0));
            due.is("runs", 1, table.runs(0, 0));
            due.is("from", day, table.run(0, 0, 0, 0));
            due.is("to", day + 1, table.run(0, 0, 0, 1));
        }
    }

    private static void deleteTakesNoValue() {
        due.sentence("Terms", "4 DELETE: it has nothing on all of them (the value counts for nothing).");
        for (int value : INTS) {
            TwoTimesTable table = with(0, 5, 0, 32);
            due.is("delete with " + value, 30, table.state(Due.DELETE, 0, value, 1, 31));
            due.is("has day 0", true, table.has(0, 0, 0));
            due.is("has day 1", false, table.has(0, 1, 0));
            due.is("has day 30", false, table.has(0, 30, 0));
            due.is("has day 31", true, table.has(0, 31, 0));
            due.is("delete the rest with " + value, 2, table.state(Due.DELETE, 0, value, 0, 32));
            due.is("runs", 0, table.runs(0, 0));
        }
    }

    private static void wrongKindKeyOrPeriodFails() {
        due.sentence("Terms",
            "with an IllegalArgumentException when there is no such kind or key or the period is none");
        TwoTimesTable table = with(0, 1, 0, 16);
        for (int wrong : Due.outside(5)) {
            due.fails("kind " + wrong, Due.ARGUMENT, () -> table.state(wrong, 0, 1, 0, 1));
        }
        for (int wrong : Due.outside(4)) {
            due.fails("key " + wrong, Due.ARGUMENT, () -> table.state(Due.PUT, wrong, 1, 0, 1));
        }
        for (int wrong : Due.outside(33)) {
            due.fails("to " + wrong, Due.ARGUMENT, () -> table.state(Due.PUT, 0, 1, 0, wrong));
            due.fails("from " + wrong, Due.ARGUMENT, () -> table.state(Due.PUT, 0, 1, wrong, 32));
        }
        due.fails("no day", Due.ARGUMENT, () -> table.state(Due.PUT, 0, 1, 7, 7));
        due.fails("turned", Due.ARGUMENT, () -> table.state(Due.PUT, 0, 1, 8, 7));
        due.is("sum", 16, table.sum(0, 0, 32, 0));
    }

    private static void nothingToChangeFails() {
        due.sentence("Terms", "with a NoSuchElementException when an UPDATE, ADD or DELETE finds nothing to change "
            + "(the key has nothing on all those days)");
        for (int kind = Due.UPDATE; kind <= Due.DELETE; kind++) {
            int any = kind;
            TwoTimesTable round = with(0, 1, 0, 32);
            round.state(Due.DELETE, 0, 0, 10, 20);
            due.fails("between values: " + kind, Due.ELEMENT, () -> round.state(any, 0, 2, 10, 20));
            due.fails("another key: " + kind, Due.ELEMENT, () -> round.state(any, 3, 2, 0, 32));
            due.is("with the day before: " + kind, 1, round.state(any, 0, 2, 9, 20));
            due.is("with the day behind: " + kind, 1, round.state(any, 0, 2, 10, 21));
            TwoTimesTable past = with(0, 1, 0, 32);
            past.tick();
            past.state(Due.DELETE, 0, 0, 0, 32);
            due.fails("a value at another time: " + kind, Due.ELEMENT, () -> past.state(any, 0, 2, 0, 32));
        }
        TwoTimesTable same = with(0, 1, 0, 32);
        due.is("an UPDATE that finds the same value", 0, same.state(Due.UPDATE, 0, 1, 0, 32));
        due.is("an ADD of 0", 0, same.state(Due.ADD, 0, 0, 0, 32));
    }

    private static void insertOnAValueFails() {
        due.sentence("Terms", "with an IllegalStateException when an INSERT meets a day on which the key has a value");
        for (int day = 0; day < 32; day++) {
            TwoTimesTable table = with(2, 0, day, day + 1);
            int on = day;
            due.fails("first day " + day, Due.STATE, () -> table.state(Due.INSERT, 2, 0, on, 32));
            due.fails("last day " + day, Due.STATE, () -> table.state(Due.INSERT, 2, 0, 0, on + 1));
            due.fails("within", Due.STATE, () -> table.state(Due.INSERT, 2, 0, 0, 32));
            due.fails("just day " + day, Due.STATE, () -> table.state(Due.INSERT, 2, 0, on, on + 1));
            due.is("runs", 1, table.runs(2, 0));
            due.is("to", day + 1, table.run(2, 0, 0, 1));
        }
    }

    private static void moreThan150RowsFail() {
        due.sentence("Terms", "and when there would be more than 150 rows behind it");
        TwoTimesTable one = Due.with150Rows();
        due.is("150 rows", 150, one.rows());
        due.fails("151 rows", Due.STATE, () -> one.state(Due.PUT, 2, 99, 0, 32));
        due.fails("152 rows", Due.STATE, () -> one.state(Due.PUT, 2, 99, 0, 31));
        due.fails("153 rows", Due.STATE, () -> one.state(Due.PUT, 2, 99, 1, 31));
        due.is("still 150 rows", 150, one.rows());
        TwoTimesTable other = Due.with128Rows();
        due.fails("128 and 23 rows", Due.STATE, () -> other.state(Due.ADD, 0, 1, 0, 23));
        due.is("128 and 22 rows", 22, other.state(Due.ADD, 0, 1, 0, 22));
        due.is("150 rows", 150, other.rows());
        due.is("row 149", 4, other.row(149, 4));
        due.fails("one of another key", Due.STATE, () -> other.state(Due.INSERT, 3, 1, 31, 32));
    }

    private static void rowsBehindAStatementCount() {
        due.sentence("Terms", "more than 150 rows behind it");
        TwoTimesTable table = Due.with150Rows();
        due.is("as many rows: another value", 32, table.state(Due.PUT, 0, 77, 0, 32));
        due.is("fewer rows: as at the time before again", 32, table.state(Due.PUT, 1, 36, 0, 32));
        due.is("149 rows", 149, table.rows());
        due.is("150 rows", 32, table.state(Due.PUT, 1, 88, 0, 32));
        due.is("no row by taking out", 32, table.state(Due.DELETE, 2, 0, 0, 32));
        due.is("150 rows", 150, table.rows());
        due.is("no row by putting back", 32, table.state(Due.INSERT, 2, 36, 0, 32));
        due.is("150 rows", 150, table.rows());
        due.is("fewer by taking out", 32, table.state(Due.DELETE, 0, 0, 0, 32));
        due.is("149 rows", 149, table.rows());
        due.is("150 rows again, of another key", 32, table.state(Due.PUT, 3, 5, 0, 32));
        due.fails("151 rows", Due.STATE, () -> table.state(Due.PUT, 0, 5, 0, 1));
        table.tick();
        due.is("a tick makes none", 150, table.rows());
        due.is("nor does taking all out", 32, table.state(Due.DELETE, 3, 0, 0, 32));
        due.fails("the clock's going on makes no room", Due.STATE, () -> table.state(Due.PUT, 0, 5, 0, 1));
    }

    private static void everyKindIsHeldTo150Rows() {
        due.sentence("Terms", "when there would be more than 150 rows behind it");
        for (int kind = 0; kind <= 4; kind++) {
            int any = kind;
            TwoTimesTable table = Due.with150Rows();
            if (kind == Due.INSERT) {
                table.state(Due.DELETE, 2, 0, 0, 32);
            }
            due.is("rows", 150, table.rows());
            due.fails("kind " + kind, Due.STATE, () -> table.state(any, 2, 5, 1, 31));
            due.is("rows", 150, table.rows());
            due.is("sum", kind == Due.INSERT ? 0 : 36 * 32, table.sum(2, 0, 32, 37));
            due.is("end", kind == Due.INSERT ? 37 : NONE, table.row(112, 5));
        }
    }

    private static void failuresAreLookedAtInOrder() {
        due.sentence("Terms", "(Looked at in this order.)");
        Supplier<TwoTimesTable> made = () -> {
            TwoTimesTable table = Due.with150Rows();
            table.state(Due.DELETE, 3, 0, 0, 32);
            return table;
        };
        TwoTimesTable table = made.get();
        due.fails("no such kind, nothing there", Due.ARGUMENT, () -> table.state(5, 3, 0, 0, 32));
        for (int kind = Due.UPDATE; kind <= Due.DELETE; kind++) {
            int any = kind;
            due.fails("no such key, nothing there: " + kind, Due.ARGUMENT, () -> table.state(any, 4, 0, 0, 32));
            due.fails("no period, nothing there: " + kind, Due.ARGUMENT, () -> table.state(any, 3, 0, 5, 5));
            due.fails("nothing there, 150 rows: " + kind, Due.ELEMENT, () -> table.state(any, 3, 0, 0, 32));
        }
        due.fails("no period, values there", Due.ARGUMENT, () -> table.state(Due.INSERT, 0, 0, 0, 33));
        due.fails("no such key, 150 rows", Due.ARGUMENT, () -> table.state(Due.INSERT, -1, 0, 0, 32));
        due.fails("no period, 150 rows", Due.ARGUMENT, () -> table.state(Due.PUT, 3, 0, -1, 32));
        due.fails("no such kind, 150 rows", Due.ARGUMENT, () -> table.state(-1, 3, 0, 0, 32));
        due.fails("values there, 150 rows", Due.STATE, () -> table.state(Due.INSERT, 0, 0, 0, 32));
    }

    private static void unchangedBy(String what, Supplier<TwoTimesTable> made, Consumer<TwoTimesTable> refused) {
        Twins.areAlike(due, what, made, () -> {
            TwoTimesTable table = made.get();
            try {
                refused.accept(table);
                due.is(what + " is refused", true, false);
            } catch (RuntimeException e) {
                return table;
            }
            return table;
        });
    }

    private static TwoTimesTable sample() {
        TwoTimesTable table = new TwoTimesTable();
        table.state(Due.PUT, 0, 5, 4, 12);
        table.state(Due.PUT, 2, 0, 0, 32);
        table.tick();
        table.state(Due.PUT, 0, 6, 6, 8);
        table.state(Due.DELETE, 2, 0, 3, 5);
        return table;
    }

    private static void failedStatementChangesNothing() {
        due.sentence("Terms", "A statement FAILS, and changes nothing");
        unchangedBy("no such kind", StatementEdgesTest::sample, t -> t.state(5, 0, 1, 0, 32));
        unchangedBy("no such key", StatementEdgesTest::sample, t -> t.state(Due.PUT, 4, 1, 0, 32));
        unchangedBy("no period", StatementEdgesTest::sample, t -> t.state(Due.PUT, 0, 1, 0, 33));
        unchangedBy("nothing to update", StatementEdgesTest::sample, t -> t.state(Due.UPDATE, 0, 1, 12, 32));
        unchangedBy("nothing to add to", StatementEdgesTest::sample, t -> t.state(Due.ADD, 0, 1, 12, 32));
        unchangedBy("nothing to delete", StatementEdgesTest::sample, t -> t.state(Due.DELETE, 0, 1, 12, 32));
        unchangedBy("insert on the last day", StatementEdgesTest::sample, t -> t.state(Due.INSERT, 0, 1, 0, 5));
        unchangedBy("insert on the first day", StatementEdgesTest::sample, t -> t.state(Due.INSERT, 0, 1, 11, 32));
        unchangedBy("160 rows", Due::with128Rows, t -> t.state(Due.ADD, 0, 1, 0, 32));
        unchangedBy("151 rows", Due::with150Rows, t -> t.state(Due.DELETE, 3, 0, 0, 31));
        unchangedBy("153 rows", Due::with150Rows, t -> t.state(Due.DELETE, 0, 0, 1, 3));
    }

    private static void answerIsTheDaysThatAreOther() {
        due.sentence("Terms", "What a statement answers is on how many days the value, or whether there is one, "
            + "is another than before it.");
        TwoTimesTable table = new TwoTimesTable();
        due.is("values for nothing", 32, table.state(Due.INSERT, 0, 0, 0, 32));
        due.is("the same values", 0, table.state(Due.PUT, 0, 0, 0, 32));
        due.is("another on one day", 1, table.state(Due.PUT, 0, 1, 31, 32));
        due.is("another on all but this day", 31, table.state(Due.PUT, 0, 1, 0, 32));
        due.is("update to the same", 0, table.state(Due.UPDATE, 0, 1, 0, 32));
        due.is("add of 0", 0, table.state(Due.ADD, 0, 0, 0, 32));
        due.is("add", 32, table.state(Due.ADD, 0, -1, 0, 32));
        due.is("nothing for a 0", 16, table.state(Due.DELETE, 0, 0, 0, 16));
        due.is("nothing for nothing does not count", 1, table.state(Due.DELETE, 0, 0, 0, 17));
        due.is("update leaves nothing", 15, table.state(Due.UPDATE, 0, 7, 0, 32));
        due.is("add leaves nothing", 15, table.state(Due.ADD, 0, Integer.MIN_VALUE, 0, 32));
        due.is("a 0 for nothing", 17, table.state(Due.INSERT, 0, 0, 0, 17));
        due.is("all out", 32, table.state(Due.DELETE, 0, 0, 0, 32));
        table.tick();
        due.is("before it is not the time before", 1, table.state(Due.PUT, 0, 3, 0, 1));
        due.is("nor is what was said at this time nothing", 0, table.state(Due.PUT, 0, 3, 0, 1));
    }

    private static void queueIsNotLookedAt() {
        due.sentence("Promise 5", "A statement waits, behind those that wait; it is not looked at.");
        for (int wrong : Due.outside(33)) {
            TwoTimesTable table = sample();
            due.is("kind " + wrong, true, table.queue(wrong, 0, 1, 0, 1));
            due.is("key " + wrong, true, table.queue(Due.PUT, wrong, 1, 0, 1));
            due.is("from " + wrong, true, table.queue(Due.PUT, 0, 1, wrong, 1));
            due.is("to " + wrong, true, table.queue(Due.PUT, 0, 1, 0, wrong));
            due.is("an insert on a value", true, table.queue(Due.INSERT, 2, 1, 0, 1));
            due.is("a delete of nothing", true, table.queue(Due.DELETE, 1, 1, 0, 1));
        }
        Twins.areAlike(due, "behind queue()", StatementEdgesTest::sample, () -> {
            TwoTimesTable table = sample();
            table.queue(Due.PUT, 0, 1, 0, 32);
            table.queue(Due.DELETE, 2, 1, 0, 32);
            return table;
        });
        TwoTimesTable full = Due.with150Rows();
        due.is("at 150 rows", true, full.queue(Due.PUT, 3, 1, 0, 1));
    }

    private static void queueIsFalseWhenEightWait() {
        due.sentence("Promise 5", "False when eight wait.");
        TwoTimesTable table = new TwoTimesTable();
        for (int number = 0; number < 8; number++) {
            due.is("queue " + number, true, table.queue(Due.PUT, 0, number, number, number + 1));
        }
        for (int more = 0; more < 10; more++) {
            due.is("queue of a ninth", false, table.queue(Due.PUT, 1, 9, 0, 32));
            due.is("queue of a wrong ninth", false, table.queue(9, 9, 9, 9, 9));
        }
        table.tick();
        due.is("they wait behind a tick, too", false, table.queue(Due.PUT, 1, 9, 0, 32));
        table.state(Due.PUT, 2, 9, 0, 32);
        due.is("and behind a statement", false, table.queue(Due.PUT, 1, 9, 0, 32));
        due.is("commit", 8, table.commit());
        for (int number = 0; number < 8; number++) {
            due.is("the eight as they were", number, table.value(0, number, 1));
        }
        due.is("no ninth", 0, table.runs(1, 1));
        due.is("queue behind commit", true, table.queue(Due.PUT, 1, 9, 0, 32));
    }

    private static void queueWaitsBehindThoseThatWait() {
        due.sentence("Promise 5", "A statement waits, behind those that wait");
        TwoTimesTable table = new TwoTimesTable();
        for (int number = 0; number < 8; number++) {
            table.queue(number == 0 ? Due.INSERT : Due.ADD, 0, 1, number, 32);
        }
        due.fails("state does none of them", Due.ELEMENT, () -> table.state(Due.ADD, 0, 1, 0, 32));
        due.is("commit", 32 + 31 + 30 + 29 + 28 + 27 + 26 + 25, table.commit());
        for (int day = 0; day < 32; day++) {
            due.is("value of day " + day, Math.min(day + 1, 8), table.value(0, day, 0));
        }
    }

    private static void commitOfNone() {
        due.sentence("Promise 6", "Does all statements that wait");
        TwoTimesTable table = sample();
        due.is("none waits", 0, table.commit());
        due.is("failed", NONE, table.failed());
        due.is("none waits, again", 0, table.commit());
        Twins.areAlike(due, "behind commit() of none", StatementEdgesTest::sample, () -> {
            TwoTimesTable other = sample();
            other.commit();
            return other;
        });
        TwoTimesTable full = Due.with150Rows();
        due.is("none waits, at 150 rows", 0, full.commit());
    }

    private static void commitIsInOrder() {
        due.sentence("Promise 6", "Does all statements that wait, in their order");
        TwoTimesTable table = with(0, 1, 0, 32);
        table.queue(Due.DELETE, 0, 0, 0, 32);
        table.queue(Due.INSERT, 0, 2, 0, 32);
        table.queue(Due.ADD, 0, 3, 0, 16);
        table.queue(Due.UPDATE, 0, 9, 16, 32);
        due.is("each meets what those before it left", 32 + 32 + 16 + 16, table.commit());
        due.is("first half", 5, table.value(0, 15, 0));
        due.is("second half", 9, table.value(0, 16, 0));
        table.queue(Due.INSERT, 0, 2, 0, 32);
        table.queue(Due.DELETE, 0, 0, 0, 32);
        due.fails("the other way round", Due.STATE, table::commit);
    }

    private static void commitIsAllOrNone() {
        due.sentence("Promise 6", "all or none: when one fails, nothing is changed at all");
        for (int bad = 0; bad < 8; bad++) {
            int at = bad;
            unchangedBy("statement " + bad + " fails", StatementEdgesTest::sample, table -> {
                for (int number = 0; number < 8; number++) {
                    if (number == at) {
                        table.queue(Due.INSERT, 2, 1, 0, 1);
                    } else {
                        table.queue(Due.PUT, number % 4, number, 3 * number, 3 * number + 9);
                    }
                }
                table.commit();
            });
        }
        unchangedBy("the last one has no period", StatementEdgesTest::sample, table -> {
            table.queue(Due.DELETE, 0, 0, 0, 32);
            table.queue(Due.PUT, 1, 3, 0, 32);
            table.queue(Due.PUT, 2, 3, 0, 1);
            table.queue(Due.PUT, 3, 3, 31, 32);
            table.queue(Due.PUT, 3, 3, 32, 32);
            table.commit();
        });
        unchangedBy("151 rows behind the last one", Due::with150Rows, table -> {
            table.queue(Due.PUT, 0, 99, 0, 32);
            table.queue(Due.DELETE, 1, 0, 0, 32);
            table.queue(Due.PUT, 2, 99, 0, 32);
            table.queue(Due.PUT, 3, 99, 0, 32);
            table.commit();
        });
    }

    private static void commitFailsAsTheStatement() {
        due.sentence("Promise 6", "and commit() fails as this one");
        TwoTimesTable table = sample();
        int[][] wrong = {{5, 0, 1, 0, 1}, {-1, 0, 1, 0, 1}, {0, 4, 1, 0, 1}, {0, -1, 1, 0, 1}, {0, 0, 1, -1, 1},
            {0, 0, 1, 0, 33}, {0, 0, 1, 1, 1}, {0, 0, 1, 2, 1}};
        for (int[] s : wrong) {
            table.queue(s[0], s[1], s[2], s[3], s[4]);
            due.fails("commit of a wrong one", Due.ARGUMENT, table::commit);
        }
        for (int kind = Due.UPDATE; kind <= Due.DELETE; kind++) {
            table.queue(kind, 1, 1, 0, 32);
            due.fails("commit of " + kind + " on nothing", Due.ELEMENT, table::commit);
        }
        table.queue(Due.INSERT, 2, 1, 0, 1);
        due.fails("commit of an insert on a value", Due.STATE, table::commit);
        table.queue(Due.DELETE, 1, 1, 0, 32);
        table.queue(Due.INSERT, 2, 1, 0, 1);
        table.queue(9, 9, 9, 9, 9);
        due.fails("as the first that fails", Due.ELEMENT, table::commit);
        table.queue(Due.INSERT, 2, 1, 0, 1);
        table.queue(Due.DELETE, 1, 1, 0, 32);
        due.fails("as the first that fails", Due.STATE, table::commit);
        table.queue(9, 9, 9, 9, 9);
        table.queue(Due.DELETE, 1, 1, 0, 32);
        due.fails("as the first that fails", Due.ARGUMENT, table::commit);
    }

    private static void commitIsHeldTo150Rows() {
        due.sentence("Terms", "when there would be more than 150 rows behind it");
        TwoTimesTable table = Due.with150Rows();
        table.queue(Due.PUT, 2, 99, 0, 32);
        table.queue(Due.DELETE, 0, 0, 0, 32);
        due.fails("151 rows behind the first", Due.STATE, table::commit);
        due.is("failed", 0, table.failed());
        due.is("rows", 150, table.rows());
        table.queue(Due.DELETE, 0, 0, 0, 32);
        table.queue(Due.PUT, 2, 99, 0, 32);
        due.is("149, then 150", 64, table.commit());
        due.is("rows", 150, table.rows());
        table.queue(Due.PUT, 2, 36, 0, 32);
        table.queue(Due.PUT, 0, 36, 0, 32);
        table.queue(Due.PUT, 3, 99, 0, 32);
        table.queue(Due.PUT, 0, 99, 0, 32);
        due.fails("149, 149, 150, 151", Due.STATE, table::commit);
        due.is("failed", 3, table.failed());
        due.is("rows", 150, table.rows());
        due.is("value", 99, table.value(2, 0, 37));
        due.is("has", false, table.has(0, 0, 37));
    }

    private static void noneWaitsBehindACommit() {
        due.sentence("Promise 6", "In any case none waits any more.");
        int[][] last = {{Due.PUT, 1, 1, 0, 1}, {Due.INSERT, 2, 1, 0, 1}, {Due.DELETE, 1, 1, 0, 1}, {5, 0, 1, 0, 1}};
        for (int[] s : last) {
            TwoTimesTable table = sample();
            table.queue(s[0], s[1], s[2], s[3], s[4]);
            for (int number = 1; number < 8; number++) {
                table.queue(Due.PUT, 3, 1, 0, 32);
            }
            due.is("eight wait", false, table.queue(Due.PUT, 3, 1, 0, 32));
            if (s[0] == Due.PUT) {
                due.is("commit", 33, table.commit());
                table.state(Due.DELETE, 3, 0, 0, 32);
            } else {
                due.fails("commit", s[0] == 5 ? Due.ARGUMENT : s[0] == Due.INSERT ? Due.STATE : Due.ELEMENT,
                    table::commit);
            }
            due.is("commit again", 0, table.commit());
            due.is("none was done", 0, table.runs(3, 1));
            for (int number = 0; number < 8; number++) {
                due.is("room for eight", true, table.queue(Due.PUT, 3, number, number, number + 1));
            }
            due.is("and no more", false, table.queue(Due.PUT, 3, 1, 0, 32));
            due.is("the new ones are done", 8, table.commit());
        }
    }

    private static void commitAnswersTheSum() {
        due.sentence("Promise 6", "Answers the sum of their answers.");
        TwoTimesTable table = new TwoTimesTable();
        for (int number = 0; number < 8; number++) {
            table.queue(Due.PUT, 0, number, 0, 32);
        }
        due.is("the most", 256, table.commit());
        for (int number = 0; number < 8; number++) {
            table.queue(Due.PUT, 0, 7, number, 32);
        }
        due.is("the least", 0, table.commit());
        table.queue(Due.PUT, 0, 8, 0, 32);
        table.queue(Due.PUT, 0, 7, 0, 32);
        due.is("there and back counts twice", 64, table.commit());
        table.queue(Due.ADD, 0, 1, 31, 32);
        due.is("one of one", 1, table.commit());
    }

    private static void failedTellsTheNumber() {
        due.sentence("Promise 7", "The number (from 0) of the statement that failed in the latest commit()");
        TwoTimesTable table = sample();
        for (int bad = 7; bad >= 0; bad--) {
            for (int number = 0; number < 8; number++) {
                table.queue(number < bad ? Due.PUT : Due.UPDATE, number < bad ? 0 : 3, 1, 0, 1);
            }
            due.fails("commit", Due.ELEMENT, table::commit);
            due.is("failed, the first of those that would", bad, table.failed());
        }
        table.queue(Due.PUT, 0, 1, 0, 1);
        table.queue(5, 0, 1, 0, 1);
        due.fails("commit", Due.ARGUMENT, table::commit);
        due.is("failed by a wrong kind", 1, table.failed());
        table.queue(Due.INSERT, 2, 1, 0, 1);
        due.fails("commit", Due.STATE, table::commit);
        due.is("failed by an insert", 0, table.failed());
        table.queue(Due.PUT, 2, 1, 0, 1);
        table.tick();
        table.state(Due.PUT, 2, 1, 0, 1);
        due.fails("state", Due.ARGUMENT, () -> table.state(5, 2, 1, 0, 1));
        table.failed();
        due.is("failed stays until the next commit()", 0, table.failed());
    }

    private static void failedIsNoneOtherwise() {
        due.sentence("Promise 7", "NONE when none did or there was no commit().");
        TwoTimesTable table = new TwoTimesTable();
        due.is("no commit()", NONE, table.failed());
        due.fails("state", Due.ARGUMENT, () -> table.state(5, 2, 1, 0, 1));
        due.fails("state", Due.ELEMENT, () -> table.state(Due.DELETE, 2, 1, 0, 1));
        due.is("a state() that failed is no commit()", NONE, table.failed());
        table.queue(5, 2, 1, 0, 1);
        due.is("one waits", NONE, table.failed());
        due.fails("commit", Due.ARGUMENT, table::commit);
        due.is("failed", 0, table.failed());
        due.is("commit of none", 0, table.commit());
        due.is("none did, of none", NONE, table.failed());
        table.queue(5, 2, 1, 0, 1);
        due.fails("commit", Due.ARGUMENT, table::commit);
        table.queue(Due.PUT, 2, 1, 0, 1);
        due.is("failed", 0, table.failed());
        due.is("commit", 1, table.commit());
        due.is("none did", NONE, table.failed());
    }
}
