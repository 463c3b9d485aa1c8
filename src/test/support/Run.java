import java.util.ArrayList;
import java.util.List;
import java.util.function.ToIntFunction;

/**
 * An object of the class as the tests use it. Nothing is promised beyond an object's 512th call:
 * so when that is near, a new object takes over, on which all calls but those that only look have
 * been made again, with the same answers. A test that needs more than 512 of these fails.
 */
final class Run {
    static final int MOST_CALLS = 512;

    private final List<ToIntFunction<AgedLog>> changes = new ArrayList<>();
    private final List<Integer> answers = new ArrayList<>();
    private AgedLog log = new AgedLog();
    private int calls = 0;

    /** How many calls are left that are not only looks. */
    int left() {
        return MOST_CALLS - changes.size();
    }

    private int change(ToIntFunction<AgedLog> call) {
        int answer = answerOf(call);
        changes.add(call);
        answers.add(answer);
        return answer;
    }

    private int answerOf(ToIntFunction<AgedLog> call) {
        if (left() == 0) {
            throw new IllegalStateException("a test uses an object beyond its last call");
        }
        if (calls == MOST_CALLS) {
            makeAgain();
        }
        calls++;
        return call.applyAsInt(log);
    }

    private void makeAgain() {
        log = new AgedLog();
        for (int i = 0; i < changes.size(); i++) {
            int answer = changes.get(i).applyAsInt(log);
            if (answer != answers.get(i)) {
                throw new IllegalStateException("call " + (i + 1) + " answered " + answers.get(i)
                    + ", and " + answer + " when it is made again");
            }
        }
        calls = changes.size();
    }

    int feed(long v, int n) {
        return change(x -> x.feed(v, n));
    }

    int put(int key) {
        return change(x -> x.put(key));
    }

    int remove(int key) {
        return change(x -> x.remove(key));
    }

    int size(int key) {
        return answerOf(x -> x.size(key));
    }

    int value(int key, int i) {
        return answerOf(x -> x.value(key, i));
    }

    int sync() {
        return change(x -> x.sync());
    }

    int checkpoint() {
        return change(x -> x.checkpoint());
    }

    int clean(int n) {
        return change(x -> x.clean(n));
    }

    int tick(int n) {
        return change(x -> x.tick(n));
    }

    int cut(int n, int t) {
        return change(x -> x.cut(n, t));
    }

    int start() {
        return change(x -> x.start());
    }

    int disk(int segment, int i) {
        return answerOf(x -> x.disk(segment, i));
    }

    int poke(int segment, int i, int mask) {
        return change(x -> x.poke(segment, i, mask));
    }

    int segment(int segment, int what) {
        return answerOf(x -> x.segment(segment, what));
    }

    int where(int key, int what) {
        return answerOf(x -> x.where(key, what));
    }

    int told(int what) {
        return answerOf(x -> x.told(what));
    }
}
