import java.util.ArrayList;
import java.util.List;
import java.util.function.ToLongFunction;

/**
 * A table that can be asked without end: an object's answers are promised for 512 calls only, so when
 * they are used up, all that was changed is done again on a new object. A boolean answer counts 1 or 0.
 */
final class Replay {
    static final int PROMISED_CALLS = 512;

    private final List<ToLongFunction<SpannedCells>> changes = new ArrayList<>();
    private SpannedCells table = new SpannedCells();
    private int calls = 0;

    long change(ToLongFunction<SpannedCells> call) {
        long answer = ask(call);
        changes.add(call);
        return answer;
    }

    long ask(ToLongFunction<SpannedCells> call) {
        if (calls == PROMISED_CALLS) {
            startAgain();
        }
        calls++;
        return call.applyAsLong(table);
    }

    private void startAgain() {
        if (changes.size() >= PROMISED_CALLS) {
            throw new IllegalStateException("too many changes for one object");
        }
        table = new SpannedCells();
        calls = 0;
        for (ToLongFunction<SpannedCells> change : changes) {
            ask(change);
        }
    }

    /** Every question of the face, over all that a table can have and a little beyond. */
    List<Long> everyAnswer() {
        List<Long> answers = new ArrayList<>();
        askWhole(answers);
        askSlots(answers);
        askCells(answers);
        askLines(answers);
        return answers;
    }

    private void askWhole(List<Long> answers) {
        answers.add(ask(t -> t.columns()));
        answers.add(ask(t -> t.rows()));
        answers.add(ask(t -> t.overlaps()));
        answers.add(ask(t -> t.empties()));
        answers.add(ask(t -> t.size(false)));
        answers.add(ask(t -> t.size(true)));
    }

    private void askSlots(List<Long> answers) {
        for (int i = 0; i < 14 * 14; i++) {
            int x = i % 14 - 1;
            int y = i / 14 - 1;
            answers.add(ask(t -> t.slot(x, y)));
            answers.add(ask(t -> t.edge(x, y, false)));
            answers.add(ask(t -> t.edge(x, y, true)));
        }
    }

    private void askCells(List<Long> answers) {
        for (int i = -1; i <= 40; i++) {
            int k = i;
            answers.add(ask(t -> t.span(k)));
            for (int j = 0; j <= 3; j++) {
                int what = j;
                answers.add(ask(t -> t.place(k, what)));
            }
        }
    }

    private void askLines(List<Long> answers) {
        for (int i = -1; i <= 12; i++) {
            int line = i;
            answers.add(ask(t -> t.high(line)));
            for (int j = 0; j <= 2; j++) {
                int what = j;
                answers.add(ask(t -> t.wide(line, what)));
            }
        }
    }
}
