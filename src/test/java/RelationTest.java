/** Promises 16 and 17: relation, join. */
public final class RelationTest {
    private static final Due due = new Due();

    public static void main(String[] args) {
        relationOfAllPeriods();
        relationOnWrongInputs();
        joinOfTwoKeys();
        joinOfOneKey();
        joinOfEarlierTimes();
        mostPairs();
        joinOnWrongInputs();
        due.end("RelationTest");
    }

    /** Each relation in the document's own words, so that just one must hold. */
    static boolean lies(int r, int from, int to, int otherFrom, int otherTo) {
        switch (r) {
            case 0: return to < otherFrom;
            case 1: return to == otherFrom;
            case 2: return from < otherFrom && to > otherFrom && to < otherTo;
            case 3: return from == otherFrom && to < otherTo;
            case 4: return from > otherFrom && to < otherTo;
            case 5: return from > otherFrom && to == otherTo;
            case 6: return from == otherFrom && to == otherTo;
            default: return lies(12 - r, otherFrom, otherTo, from, to);
        }
    }

    private static void relationOfAllPeriods() {
        TwoTimesTable table = null;
        int calls = 0;
        for (int from = 0; from < 32; from++) {
            for (int to = from + 1; to <= 32; to++) {
                for (int otherFrom = 0; otherFrom < 32; otherFrom++) {
                    for (int otherTo = otherFrom + 1; otherTo <= 32; otherTo++) {
                        if (calls++ % 512 == 0) {
                            table = new TwoTimesTable();
                        }
                        int got = table.relation(from, to, otherFrom, otherTo);
                        for (int r = 0; r <= 12; r++) {
                            due.is("relation is " + r, lies(r, from, to, otherFrom, otherTo), got == r);
                        }
                    }
                }
            }
        }
    }

    private static void relationOnWrongInputs() {
        TwoTimesTable table = new TwoTimesTable();
        for (int far : Due.FAR) {
            due.fails("from", Due.ARGUMENT, () -> table.relation(far, 32, 0, 1));
            due.fails("to", Due.ARGUMENT, () -> table.relation(0, far, 0, 1));
            due.fails("other from", Due.ARGUMENT, () -> table.relation(0, 1, far, 32));
            due.fails("other to", Due.ARGUMENT, () -> table.relation(0, 1, 0, far));
        }
        due.fails("to 33", Due.ARGUMENT, () -> table.relation(0, 33, 0, 1));
        due.fails("other to 33", Due.ARGUMENT, () -> table.relation(0, 1, 0, 33));
        due.fails("no days", Due.ARGUMENT, () -> table.relation(4, 4, 0, 1));
        due.fails("other has no days", Due.ARGUMENT, () -> table.relation(0, 1, 4, 4));
        due.fails("turned", Due.ARGUMENT, () -> table.relation(5, 4, 0, 1));
        due.fails("other is turned", Due.ARGUMENT, () -> table.relation(0, 1, 5, 4));
    }

    private static void joins(TwoTimesTable table, int key, int other, int time, int... want) {
        for (int r = 0; r <= 12; r++) {
            due.is("join(" + key + ", " + other + ", " + time + ", " + r + ")", want[r],
                table.join(key, other, time, r));
        }
    }

    private static void joinOfTwoKeys() {
        TwoTimesTable table = new TwoTimesTable();
        table.state(Due.PUT, 0, 1, 0, 4);
        table.state(Due.PUT, 0, 2, 4, 8);
        table.state(Due.PUT, 0, 2, 20, 32);
        table.state(Due.PUT, 3, 2, 4, 8);
        table.state(Due.PUT, 3, 1, 22, 24);
        table.state(Due.PUT, 3, 2, 24, 32);
        joins(table, 0, 3, 0, 4, 1, 0, 0, 0, 0, 1, 1, 1, 0, 0, 0, 1);
        joins(table, 3, 0, 0, 1, 0, 0, 0, 1, 1, 1, 0, 0, 0, 0, 1, 4);
        joins(table, 0, 1, 0, 0, 0, 0, 0, 0, 0, 0, 0, 0, 0, 0, 0, 0);
        joins(table, 1, 0, 0, 0, 0, 0, 0, 0, 0, 0, 0, 0, 0, 0, 0, 0);
    }

    private static void joinOfOneKey() {
        TwoTimesTable table = new TwoTimesTable();
        table.state(Due.PUT, 2, 1, 0, 4);
        table.state(Due.PUT, 2, 2, 4, 8);
        table.state(Due.PUT, 2, 1, 9, 12);
        joins(table, 2, 2, 0, 2, 1, 0, 0, 0, 0, 3, 0, 0, 0, 0, 1, 2);
    }

    private static void joinOfEarlierTimes() {
        TwoTimesTable table = new TwoTimesTable();
        table.state(Due.PUT, 0, 1, 0, 4);
        table.state(Due.PUT, 1, 1, 0, 4);
        table.tick();
        table.state(Due.PUT, 1, 1, 0, 6);
        due.is("the same at 0", 1, table.join(0, 1, 0, 6));
        due.is("not at 1", 0, table.join(0, 1, 1, 6));
        due.is("begins with it at 1", 1, table.join(0, 1, 1, 3));
    }

    private static void mostPairs() {
        TwoTimesTable table = new TwoTimesTable();
        Due.fillWithSingleDays(table, 0);
        Due.fillWithSingleDays(table, 1);
        joins(table, 0, 1, 0, 465, 31, 0, 0, 0, 0, 32, 0, 0, 0, 0, 31, 465);
    }

    private static void joinOnWrongInputs() {
        TwoTimesTable table = new TwoTimesTable();
        table.state(Due.PUT, 0, 1, 0, 4);
        for (int far : Due.FAR) {
            due.fails("key", Due.ARGUMENT, () -> table.join(far, 0, 0, 6));
            due.fails("other", Due.ARGUMENT, () -> table.join(0, far, 0, 6));
            due.fails("time", Due.ARGUMENT, () -> table.join(0, 0, far, 6));
            due.fails("r", Due.ARGUMENT, () -> table.join(0, 0, 0, far));
        }
        due.fails("key 4", Due.ARGUMENT, () -> table.join(4, 0, 0, 6));
        due.fails("other 4", Due.ARGUMENT, () -> table.join(0, 4, 0, 6));
        due.fails("time 1", Due.ARGUMENT, () -> table.join(0, 0, 1, 6));
        due.fails("r 13", Due.ARGUMENT, () -> table.join(0, 0, 0, 13));
    }
}
