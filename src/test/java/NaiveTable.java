import java.util.ArrayList;
import java.util.List;
import java.util.NoSuchElementException;

/**
 * The document said again in the slowest way, to compare with: every state a grid of Integers,
 * null for nothing, and rows sought by trying every period and every begin.
 */
final class NaiveTable {
    /** Rows are sought anew only when something may have changed. */
    private List<int[]> foundRows = null;
    private List<Integer[][]> states = new ArrayList<>();
    private final List<int[]> waiting = new ArrayList<>();
    private int failed = -1;

    NaiveTable() {
        states.add(new Integer[4][32]);
    }

    private static Integer[][] copy(Integer[][] state) {
        Integer[][] copy = new Integer[4][];
        for (int key = 0; key < 4; key++) {
            copy[key] = state[key].clone();
        }
        return copy;
    }

    private static boolean isPeriod(int from, int to) {
        return 0 <= from && from < to && to <= 32;
    }

    private void need(boolean fine) {
        if (!fine) {
            throw new IllegalArgumentException();
        }
    }

    private void needKey(int key) {
        need(0 <= key && key <= 3);
    }

    private void needDay(int day) {
        need(0 <= day && day <= 31);
    }

    private void needTime(int time) {
        need(0 <= time && time <= clock());
    }

    int tick() {
        if (clock() == 39) {
            throw new IllegalStateException();
        }
        states.add(copy(states.get(clock())));
        foundRows = null;
        return clock();
    }

    int clock() {
        return states.size() - 1;
    }

    int state(int kind, int key, int value, int from, int to) {
        need(0 <= kind && kind <= 4);
        needKey(key);
        need(isPeriod(from, to));
        Integer[][] before = states.get(clock());
        Integer[][] after = copy(before);
        int values = 0;
        int changed = 0;
        for (int day = from; day < to; day++) {
            Integer old = before[key][day];
            values += old == null ? 0 : 1;
            Integer now = old;
            if (kind <= 1) {
                now = value;
            } else if (kind == 4) {
                now = null;
            } else if (old != null) {
                now = kind == 2 ? value : old + value;
            }
            after[key][day] = now;
            changed += java.util.Objects.equals(old, now) ? 0 : 1;
        }
        if (kind >= 2 && values == 0) {
            throw new NoSuchElementException();
        }
        if (kind == 1 && values > 0) {
            throw new IllegalStateException();
        }
        List<int[]> rowsBefore = allRows();
        states.set(clock(), after);
        foundRows = null;
        if (allRows().size() > 150) {
            states.set(clock(), before);
            foundRows = rowsBefore;
            throw new IllegalStateException();
        }
        return changed;
    }

    boolean queue(int kind, int key, int value, int from, int to) {
        return waiting.size() < 8 && waiting.add(new int[] {kind, key, value, from, to});
    }

    int commit() {
        Integer[][] before = copy(states.get(clock()));
        List<int[]> todo = new ArrayList<>(waiting);
        waiting.clear();
        failed = -1;
        int sum = 0;
        for (int number = 0; number < todo.size(); number++) {
            int[] s = todo.get(number);
            try {
                sum += state(s[0], s[1], s[2], s[3], s[4]);
            } catch (RuntimeException e) {
                failed = number;
                states.set(clock(), before);
                foundRows = null;
                throw e;
            }
        }
        return sum;
    }

    int failed() {
        return failed;
    }

    int value(int key, int day, int time) {
        needKey(key);
        needDay(day);
        needTime(time);
        if (states.get(time)[key][day] == null) {
            throw new NoSuchElementException();
        }
        return states.get(time)[key][day];
    }

    boolean has(int key, int day, int time) {
        try {
            value(key, day, time);
            return true;
        } catch (IllegalArgumentException | NoSuchElementException e) {
            return false;
        }
    }

    long sum(int key, int from, int to, int time) {
        needKey(key);
        need(isPeriod(from, to));
        needTime(time);
        long sum = 0;
        for (int day = from; day < to; day++) {
            sum += has(key, day, time) ? value(key, day, time) : 0;
        }
        return sum;
    }

    /** Whether the period is a longest one with the same value on all its days. */
    private boolean isRun(int key, int time, int from, int to) {
        Integer[] days = states.get(time)[key];
        Integer value = days[from];
        if (value == null) {
            return false;
        }
        for (int day = from; day < to; day++) {
            if (!value.equals(days[day])) {
                return false;
            }
        }
        return (from == 0 || !value.equals(days[from - 1])) && (to == 32 || !value.equals(days[to]));
    }

    private boolean isRunWith(int key, int time, int from, int to, Integer value) {
        return isRun(key, time, from, to) && states.get(time)[key][from].equals(value);
    }

    private List<int[]> allRuns(int key, int time) {
        List<int[]> runs = new ArrayList<>();
        for (int from = 0; from < 32; from++) {
            for (int to = from + 1; to <= 32; to++) {
                if (isRun(key, time, from, to)) {
                    runs.add(new int[] {from, to, states.get(time)[key][from]});
                }
            }
        }
        return runs;
    }

    int runs(int key, int time) {
        needKey(key);
        needTime(time);
        return allRuns(key, time).size();
    }

    int run(int key, int time, int k, int part) {
        needKey(key);
        needTime(time);
        need(0 <= part && part <= 2);
        return allRuns(key, time).get(k)[part];
    }

    private List<int[]> allRows() {
        if (foundRows != null) {
            return foundRows;
        }
        List<int[]> rows = new ArrayList<>();
        for (int key = 0; key < 4; key++) {
            for (int begin = 0; begin <= clock(); begin++) {
                for (int[] run : allRuns(key, begin)) {
                    if (begin > 0 && isRunWith(key, begin - 1, run[0], run[1], run[2])) {
                        continue;
                    }
                    int end = begin;
                    while (end <= clock() && isRunWith(key, end, run[0], run[1], run[2])) {
                        end++;
                    }
                    rows.add(new int[] {key, run[2], run[0], run[1], begin, end > clock() ? -1 : end});
                }
            }
        }
        foundRows = rows;
        return rows;
    }

    int rows() {
        return allRows().size();
    }

    int row(int k, int part) {
        need(0 <= part && part <= 5);
        return allRows().get(k)[part];
    }

    int changes(int key, int day) {
        needKey(key);
        needDay(day);
        int count = 0;
        for (int time = 1; time <= clock(); time++) {
            count += java.util.Objects.equals(states.get(time - 1)[key][day], states.get(time)[key][day]) ? 0 : 1;
        }
        return count;
    }

    int relation(int from, int to, int otherFrom, int otherTo) {
        need(isPeriod(from, to));
        need(isPeriod(otherFrom, otherTo));
        int r = 0;
        while (!RelationTest.lies(r, from, to, otherFrom, otherTo)) {
            r++;
        }
        return r;
    }

    int join(int key, int other, int time, int r) {
        needKey(key);
        needKey(other);
        needTime(time);
        need(0 <= r && r <= 12);
        int count = 0;
        for (int[] one : allRuns(key, time)) {
            for (int[] two : allRuns(other, time)) {
                count += RelationTest.lies(r, one[0], one[1], two[0], two[1]) ? 1 : 0;
            }
        }
        return count;
    }
}
