import java.util.ArrayList;
import java.util.List;

/**
 * An object of KermitLine for tests that ask much. Nothing is promised of an object after its 512th call: when that
 * is reached, a new one takes its place, to which all calls that may change something are made again.
 */
final class Renewed {
    static final int CALLS = 512;

    private interface Change {
        int on(KermitLine line);
    }

    private final List<Change> changes = new ArrayList<>();
    private final List<Integer> answers = new ArrayList<>();
    private KermitLine line = new KermitLine();
    private int calls = 0;

    /** Another object to which the same has happened. */
    Renewed copy() {
        Renewed other = new Renewed();
        other.changes.addAll(changes);
        other.answers.addAll(answers);
        other.renew();
        return other;
    }

    /** How many calls have been made that may change something. */
    int changes() {
        return changes.size();
    }

    private void renew() {
        line = new KermitLine();
        for (int i = 0; i < changes.size(); i++) {
            int answer = changes.get(i).on(line);
            if (answer != answers.get(i)) {
                Bench.same("call " + i + ", made again on a new object,", answer, answers.get(i));
            }
        }
        calls = changes.size();
    }

    private int change(Change change) {
        int answer = change.on(toAsk());
        changes.add(change);
        answers.add(answer);
        return answer;
    }

    private KermitLine toAsk() {
        if (changes.size() >= CALLS) {
            throw new IllegalStateException("the test changes an object more often than is promised to go");
        }
        if (calls >= CALLS) {
            renew();
        }
        calls++;
        return line;
    }

    private static int bit(boolean b) {
        return b ? 1 : 0;
    }

    int feed(int a, int b, int c, int d, int e) {
        return change(x -> x.feed(a, b, c, d, e));
    }

    int file(int end, int n, int m, int date) {
        return change(x -> x.file(end, n, m, date));
    }

    boolean drop(int end, int file) {
        return change(x -> bit(x.drop(end, file))) == 1;
    }

    int set(int end, int what, int v) {
        return change(x -> x.set(end, what, v));
    }

    boolean send(int end, int first, int many) {
        return change(x -> bit(x.send(end, first, many))) == 1;
    }

    int deliver(int end) {
        return change(x -> x.deliver(end));
    }

    boolean lose(int end, int k) {
        return change(x -> bit(x.lose(end, k))) == 1;
    }

    int spoil(int end, int k, int i, int mask) {
        return change(x -> x.spoil(end, k, i, mask));
    }

    boolean twice(int end, int k) {
        return change(x -> bit(x.twice(end, k))) == 1;
    }

    int timer(int end) {
        return change(x -> x.timer(end));
    }

    int line(int end) {
        return toAsk().line(end);
    }

    int look(int end, int k, int i) {
        return toAsk().look(end, k, i);
    }

    int about(int end, int what) {
        return toAsk().about(end, what);
    }

    int told(int end, int file, int what) {
        return toAsk().told(end, file, what);
    }

    int content(int end, int file, int i) {
        return toAsk().content(end, file, i);
    }
}
