import java.util.NoSuchElementException;

/**
 * A table whose rows say when something was so and when the table said it.
 *
 * <p>The state of every time is held whole, one {@link History} a key. Rows are not stored: a row
 * begins wherever a run stands in a time's state that did not stand in the state before, so rows
 * are counted and found from the states.
 */
public final class TwoTimesTable {
    /** Where something is open, or not there. */
    public static final int NONE = -1;

    private static final int KEYS = 4;
    private static final int DAYS = 32;
    private static final int TIMES = 40;
    private static final int MOST_ROWS = 150;
    private static final int MOST_WAITING = 8;
    private static final int LAST_RELATION = 12;
    private static final int LAST_RUN_PART = 2;
    private static final int LAST_ROW_PART = 5;

    private static final int PUT = 0;
    private static final int INSERT = 1;
    private static final int UPDATE = 2;
    private static final int ADD = 3;
    private static final int DELETE = 4;

    // A statement's outcome is its answer or, below 0, how it failed: a failed one must be taken
    // back before anything is thrown.
    private static final int WRONG = -1;
    private static final int MISSING = -2;
    private static final int REFUSED = -3;

    private final History[] histories = new History[KEYS];
    private final Statement[] waiting = new Statement[MOST_WAITING];
    private final Statement single = new Statement();
    private int waitingCount = 0;
    private int failedNumber = NONE;
    private int now = 0;

    public TwoTimesTable() {
        for (int key = 0; key < KEYS; key++) {
            histories[key] = new History();
        }
        for (int number = 0; number < MOST_WAITING; number++) {
            waiting[number] = new Statement();
        }
    }

    /** The clock goes on by 1; answers what it shows. */
    public int tick() throws IllegalStateException {
        if (now >= TIMES - 1) {
            throw new IllegalStateException("the clock shows its last time");
        }
        now++;
        for (int key = 0; key < KEYS; key++) {
            histories[key].carryInto(now);
        }
        return now;
    }

    /** What the clock shows. */
    public int clock() {
        return now;
    }

    /** Does a statement; answers on how many days it changed something. */
    public int state(int kind, int key, int value, int from, int to)
            throws IllegalArgumentException, IllegalStateException, NoSuchElementException {
        single.say(kind, key, value, from, to);
        keepPresent();
        int outcome = perform(single);
        if (outcome < 0) {
            takeBackPresent();
        }
        return answerOrThrow(outcome);
    }

    /** A statement waits for commit(), unlooked at; false when eight wait. */
    public boolean queue(int kind, int key, int value, int from, int to) {
        if (waitingCount >= MOST_WAITING) {
            return false;
        }
        waiting[waitingCount].say(kind, key, value, from, to);
        waitingCount++;
        return true;
    }

    /** Does all statements that wait, or none; answers the sum of their answers. */
    public int commit() throws IllegalArgumentException, IllegalStateException, NoSuchElementException {
        keepPresent();
        int outcome = performWaiting();
        waitingCount = 0;
        if (outcome < 0) {
            takeBackPresent();
        }
        return answerOrThrow(outcome);
    }

    /** The number of the statement that failed in the latest commit(), or NONE. */
    public int failed() {
        return failedNumber;
    }

    /** What the state of a time has for a key on a day. */
    public int value(int key, int day, int time) throws IllegalArgumentException, NoSuchElementException {
        if (!isKey(key) || !isDay(day) || !isTime(time)) {
            throw new IllegalArgumentException("no such key, day or time");
        }
        if (!histories[key].holds(time, day)) {
            throw new NoSuchElementException("the key has nothing on that day");
        }
        return histories[key].at(time, day);
    }

    /** Whether the state of a time has a value for a key on a day. */
    public boolean has(int key, int day, int time) {
        return isKey(key) && isDay(day) && isTime(time) && histories[key].holds(time, day);
    }

    /** The sum of the values of a key over the days of a period, in the state of a time. */
    public long sum(int key, int from, int to, int time) throws IllegalArgumentException {
        if (!isKey(key) || !isPeriod(from, to) || !isTime(time)) {
            throw new IllegalArgumentException("no such key, period or time");
        }
        return histories[key].total(time, from, to);
    }

    /** How many runs a key has in the state of a time. */
    public int runs(int key, int time) throws IllegalArgumentException {
        if (!isKey(key) || !isTime(time)) {
            throw new IllegalArgumentException("no such key or time");
        }
        return Integer.bitCount(histories[key].runStarts(time));
    }

    /** Run k of a key in the state of a time: part 0 from, 1 to, 2 the value. */
    public int run(int key, int time, int k, int part)
            throws IllegalArgumentException, IndexOutOfBoundsException {
        if (!isKey(key) || !isTime(time) || part < 0 || part > LAST_RUN_PART) {
            throw new IllegalArgumentException("no such key, time or part");
        }
        History history = histories[key];
        int from = History.dayNumber(history.runStarts(time), k);
        if (from == NONE) {
            throw new IndexOutOfBoundsException("no such run");
        }
        switch (part) {
            case 0:
                return from;
            case 1:
                return history.endOfRun(time, from);
            default:
                return history.at(time, from);
        }
    }

    /** How many rows there are. */
    public int rows() {
        int count = 0;
        for (int key = 0; key < KEYS; key++) {
            count += histories[key].rowCount;
        }
        return count;
    }

    /** Row k: part 0 the key, 1 the value, 2 from, 3 to, 4 begin, 5 end (NONE when it is open). */
    public int row(int k, int part) throws IllegalArgumentException, IndexOutOfBoundsException {
        if (part < 0 || part > LAST_ROW_PART) {
            throw new IllegalArgumentException("no such part");
        }
        if (k < 0 || k >= rows()) {
            throw new IndexOutOfBoundsException("no such row");
        }
        int key = 0;
        int number = k;
        while (key < KEYS - 1 && number >= histories[key].rowCount) {
            number -= histories[key].rowCount;
            key++;
        }
        return part == 0 ? key : partOfRow(histories[key], number, part);
    }

    /** How often what the state has for a key on a day changed from one time to the next. */
    public int changes(int key, int day) throws IllegalArgumentException {
        if (!isKey(key) || !isDay(day)) {
            throw new IllegalArgumentException("no such key or day");
        }
        return histories[key].countChanges(day, now);
    }

    /** How a period lies to another one, as a number from 0 to 12. */
    public int relation(int from, int to, int otherFrom, int otherTo) throws IllegalArgumentException {
        if (!isPeriod(from, to) || !isPeriod(otherFrom, otherTo)) {
            throw new IllegalArgumentException("no such period");
        }
        return lie(from, to, otherFrom, otherTo);
    }

    /** How many pairs of runs of two keys there are of which the first lies to the second as r says. */
    public int join(int key, int other, int time, int r) throws IllegalArgumentException {
        if (!isKey(key) || !isKey(other) || !isTime(time) || r < 0 || r > LAST_RELATION) {
            throw new IllegalArgumentException("no such key, time or relation");
        }
        History first = histories[key];
        History second = histories[other];
        int starts = first.runStarts(time);
        int pairs = 0;
        for (int from = 0; from < DAYS; from++) {
            if (History.isIn(starts, from)) {
                pairs += countLying(from, first.endOfRun(time, from), second, time, r);
            }
        }
        return pairs;
    }

    private static boolean isKey(int key) {
        return key >= 0 && key < KEYS;
    }

    private static boolean isDay(int day) {
        return day >= 0 && day < DAYS;
    }

    private static boolean isPeriod(int from, int to) {
        return from >= 0 && from < to && to <= DAYS;
    }

    private boolean isTime(int time) {
        return time >= 0 && time <= now;
    }

    private void keepPresent() {
        for (int key = 0; key < KEYS; key++) {
            histories[key].keep(now);
        }
    }

    private void takeBackPresent() {
        for (int key = 0; key < KEYS; key++) {
            histories[key].takeBack(now);
        }
    }

    /** The outcome of all that wait: the sum of the answers, or that of the first that fails. */
    private int performWaiting() {
        failedNumber = NONE;
        int sum = 0;
        for (int number = 0; number < waitingCount; number++) {
            int outcome = perform(waiting[number]);
            if (outcome < 0) {
                failedNumber = number;
                return outcome;
            }
            sum += outcome;
        }
        return sum;
    }

    /** The outcome of one statement; one that fails may leave changes for its caller to take back. */
    private int perform(Statement statement) {
        int kind = statement.kind;
        if (kind < PUT || kind > DELETE || !isKey(statement.key)
                || !isPeriod(statement.from, statement.to)) {
            return WRONG;
        }
        History history = histories[statement.key];
        boolean meetsValues = history.holdsAny(now, statement.from, statement.to);
        if (!meetsValues && (kind == UPDATE || kind == ADD || kind == DELETE)) {
            return MISSING;
        }
        if (meetsValues && kind == INSERT) {
            return REFUSED;
        }
        int changedDays = history.apply(statement, now);
        history.markRuns(now);
        history.markRows(now);
        return rows() > MOST_ROWS ? REFUSED : changedDays;
    }

    private static int answerOrThrow(int outcome) {
        if (outcome == WRONG) {
            throw new IllegalArgumentException("no such kind, key or period");
        }
        if (outcome == MISSING) {
            throw new NoSuchElementException("there is nothing to change");
        }
        if (outcome == REFUSED) {
            throw new IllegalStateException("a day has a value, or there would be too many rows");
        }
        return outcome;
    }

    private int partOfRow(History history, int number, int part) {
        int place = history.placeOfRow(number, now);
        if (place == NONE) {
            return NONE;
        }
        int begin = place / DAYS;
        int from = place % DAYS;
        switch (part) {
            case 1:
                return history.at(begin, from);
            case 2:
                return from;
            case 3:
                return history.endOfRun(begin, from);
            case 4:
                return begin;
            default:
                return history.endOfRow(begin, from, now);
        }
    }

    private static int countLying(int from, int to, History second, int time, int r) {
        int starts = second.runStarts(time);
        int count = 0;
        for (int other = 0; other < DAYS; other++) {
            if (History.isIn(starts, other)
                    && lie(from, to, other, second.endOfRun(time, other)) == r) {
                count++;
            }
        }
        return count;
    }

    private static int lie(int from, int to, int otherFrom, int otherTo) {
        int direct = lieDirectly(from, to, otherFrom, otherTo);
        if (direct != NONE) {
            return direct;
        }
        return LAST_RELATION - lieDirectly(otherFrom, otherTo, from, to);
    }

    /** One of the relations 0 to 6, or NONE when only the other period lies so to this one. */
    private static int lieDirectly(int from, int to, int otherFrom, int otherTo) {
        if (to < otherFrom) {
            return 0;
        }
        if (to == otherFrom) {
            return 1;
        }
        if (from < otherFrom) {
            return to < otherTo ? 2 : NONE;
        }
        if (to > otherTo) {
            return NONE;
        }
        if (from == otherFrom) {
            return to < otherTo ? 3 : 6;
        }
        return to < otherTo ? 4 : 5;
    }

    /** What was said in one call; the table makes its statements once and fills them again. */
    private static final class Statement {
        private int kind;
        private int key;
        private int value;
        private int from;
        private int to;

        private void say(int newKind, int newKey, int newValue, int newFrom, int newTo) {
            kind = newKind;
            key = newKey;
            value = newValue;
            from = newFrom;
            to = newTo;
        }
    }

    /**
     * What one key has on each day in the state of each time. Sets of days are ints with a bit a
     * day, so that runs and rows are counted and compared without being made.
     */
    private static final class History {
        // A day without a value holds 0 here, so that two days are alike just when both this and
        // the bit in held are the same.
        private final int[] values = new int[TIMES * DAYS];
        private final int[] held = new int[TIMES];
        // The days that belong to the run of the day before them.
        private final int[] goingOn = new int[TIMES];
        // The first days of the runs with which a row begins at that time.
        private final int[] rowStarts = new int[TIMES];
        private int rowCount = 0;

        // The present state before a statement or commit, in case it fails.
        private final int[] keptValues = new int[DAYS];
        private int keptHeld = 0;
        private int keptGoingOn = 0;
        private int keptRowStarts = 0;

        private static boolean isIn(int days, int day) {
            return (days >>> day & 1) == 1;
        }

        /** Day k, from 0, of a set of days; NONE when there is none. */
        private static int dayNumber(int days, int k) {
            int number = 0;
            for (int day = 0; day < DAYS; day++) {
                if (isIn(days, day)) {
                    if (number == k) {
                        return day;
                    }
                    number++;
                }
            }
            return NONE;
        }

        private boolean holds(int time, int day) {
            return isIn(held[time], day);
        }

        private int at(int time, int day) {
            return values[time * DAYS + day];
        }

        private void setDay(int time, int day, int value) {
            values[time * DAYS + day] = value;
            held[time] |= 1 << day;
        }

        private void clearDay(int time, int day) {
            values[time * DAYS + day] = 0;
            held[time] &= ~(1 << day);
        }

        /** Begins a time with the state of the time before. */
        private void carryInto(int time) {
            System.arraycopy(values, (time - 1) * DAYS, values, time * DAYS, DAYS);
            held[time] = held[time - 1];
            goingOn[time] = goingOn[time - 1];
        }

        private void keep(int time) {
            System.arraycopy(values, time * DAYS, keptValues, 0, DAYS);
            keptHeld = held[time];
            keptGoingOn = goingOn[time];
            keptRowStarts = rowStarts[time];
        }

        private void takeBack(int time) {
            System.arraycopy(keptValues, 0, values, time * DAYS, DAYS);
            held[time] = keptHeld;
            goingOn[time] = keptGoingOn;
            noteRowStarts(time, keptRowStarts);
        }

        private boolean holdsAny(int time, int from, int to) {
            for (int day = from; day < to; day++) {
                if (holds(time, day)) {
                    return true;
                }
            }
            return false;
        }

        /** Changes the days of the statement's period; answers how many are another than before. */
        private int apply(Statement statement, int time) {
            int changedDays = 0;
            for (int day = statement.from; day < statement.to; day++) {
                if (changeDay(statement, time, day)) {
                    changedDays++;
                }
            }
            return changedDays;
        }

        private boolean changeDay(Statement statement, int time, int day) {
            boolean had = holds(time, day);
            int before = at(time, day);
            switch (statement.kind) {
                case PUT:
                case INSERT:
                    setDay(time, day, statement.value);
                    break;
                case UPDATE:
                    if (had) {
                        setDay(time, day, statement.value);
                    }
                    break;
                case ADD:
                    if (had) {
                        setDay(time, day, before + statement.value);
                    }
                    break;
                default:
                    clearDay(time, day);
                    break;
            }
            return had != holds(time, day) || before != at(time, day);
        }

        /** Finds the runs of a time anew behind a change. */
        private void markRuns(int time) {
            int days = 0;
            for (int day = 1; day < DAYS; day++) {
                if (holds(time, day - 1) && holds(time, day) && at(time, day - 1) == at(time, day)) {
                    days |= 1 << day;
                }
            }
            goingOn[time] = days;
        }

        /** Finds the rows that begin at a time anew, when its runs are marked. */
        private void markRows(int time) {
            int starts = runStarts(time);
            int days = 0;
            for (int day = 0; day < DAYS; day++) {
                if (isIn(starts, day) && !(time > 0 && isSameRun(time - 1, time, day))) {
                    days |= 1 << day;
                }
            }
            noteRowStarts(time, days);
        }

        private void noteRowStarts(int time, int days) {
            rowCount += Integer.bitCount(days) - Integer.bitCount(rowStarts[time]);
            rowStarts[time] = days;
        }

        /** The first days of the runs. */
        private int runStarts(int time) {
            return held[time] & ~goingOn[time];
        }

        private int endOfRun(int time, int from) {
            int to = from + 1;
            while (to < DAYS && isIn(goingOn[time], to)) {
                to++;
            }
            return to;
        }

        /** Whether runs of one period and value begin on a day at both times. */
        private boolean isSameRun(int time, int otherTime, int from) {
            return isIn(runStarts(time) & runStarts(otherTime), from)
                    && at(time, from) == at(otherTime, from)
                    && endOfRun(time, from) == endOfRun(otherTime, from);
        }

        private long total(int time, int from, int to) {
            long sum = 0;
            for (int day = from; day < to; day++) {
                sum += at(time, day);
            }
            return sum;
        }

        /** Where a row of this key begins, as time * DAYS + first day; NONE when there is none. */
        private int placeOfRow(int number, int lastTime) {
            int rest = number;
            for (int time = 0; time <= lastTime; time++) {
                int day = dayNumber(rowStarts[time], rest);
                if (day != NONE) {
                    return time * DAYS + day;
                }
                rest -= Integer.bitCount(rowStarts[time]);
            }
            return NONE;
        }

        /** The first time behind begin at which the run no longer stands; NONE while it does. */
        private int endOfRow(int begin, int from, int lastTime) {
            for (int time = begin + 1; time <= lastTime; time++) {
                if (!isSameRun(begin, time, from)) {
                    return time;
                }
            }
            return NONE;
        }

        private int countChanges(int day, int lastTime) {
            int count = 0;
            for (int time = 1; time <= lastTime; time++) {
                if (holds(time - 1, day) != holds(time, day) || at(time - 1, day) != at(time, day)) {
                    count++;
                }
            }
            return count;
        }
    }
}
