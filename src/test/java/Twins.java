import java.util.ArrayList;
import java.util.List;
import java.util.function.Supplier;
import java.util.function.ToLongFunction;

/**
 * Asks two tables all that there is to ask of their states and rows, to see that a call which
 * should change nothing does so. Both are made anew for every few questions, so that none is used
 * for more than 512 calls.
 */
final class Twins {
    private static final int QUESTIONS_A_TABLE = 100;

    private final List<String> names = new ArrayList<>();
    private final List<ToLongFunction<TwoTimesTable>> questions = new ArrayList<>();

    static void areAlike(Due due, String what, Supplier<TwoTimesTable> one, Supplier<TwoTimesTable> other) {
        TwoTimesTable first = one.get();
        Twins twins = new Twins();
        twins.collect(first.clock(), first.rows());
        TwoTimesTable second = null;
        for (int number = 0; number < twins.questions.size(); number++) {
            if (number % QUESTIONS_A_TABLE == 0) {
                first = one.get();
                second = other.get();
            }
            ToLongFunction<TwoTimesTable> question = twins.questions.get(number);
            due.is(what + ": " + twins.names.get(number), question.applyAsLong(first), question.applyAsLong(second));
        }
    }

    private void ask(String name, ToLongFunction<TwoTimesTable> question) {
        names.add(name);
        questions.add(question);
    }

    private void collect(int clock, int rows) {
        ask("clock()", TwoTimesTable::clock);
        ask("rows()", TwoTimesTable::rows);
        for (int k = 0; k < rows; k++) {
            for (int part = 0; part < 6; part++) {
                int row = k;
                int rowPart = part;
                ask("row(" + k + ", " + part + ")", t -> row < t.rows() ? t.row(row, rowPart) : Long.MIN_VALUE);
            }
        }
        for (int key = 0; key < 4; key++) {
            for (int time = 0; time <= clock; time++) {
                collectState(key, time);
            }
        }
    }

    private void collectState(int key, int time) {
        ask("runs(" + key + ", " + time + ")", t -> t.runs(key, time));
        for (int d = 0; d < 32; d++) {
            int day = d;
            ask("value(" + key + ", " + day + ", " + time + ")",
                t -> t.has(key, day, time) ? t.value(key, day, time) : Long.MIN_VALUE);
        }
    }
}
