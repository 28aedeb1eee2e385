import java.util.ArrayList;
import java.util.List;

/**
 * A new object and the calls that were made on it. Nothing is promised beyond 512 calls, so a test that makes more is
 * stopped; and as the calls are kept, a twin can be brought to the same state.
 */
final class Run {
    static final int MOST_CALLS = 512;

    private final PhaseLoads x = new PhaseLoads();
    private final List<Call> calls = new ArrayList<>();

    interface Call {
        long on(PhaseLoads x);
    }

    long call(Call call) {
        if (calls.size() == MOST_CALLS) {
            throw new IllegalStateException("a test makes more calls on one object than are promised");
        }
        calls.add(call);
        return call.on(x);
    }

    Run twin() {
        Run twin = new Run();
        for (Call call : calls) {
            twin.call(call);
        }
        return twin;
    }

    int callsLeft() {
        return MOST_CALLS - calls.size();
    }

    int house(int sort, int size, int phase) {
        return (int) call(y -> y.house(sort, size, phase));
    }

    int sets(int h, int what, int v) {
        return (int) call(y -> y.sets(h, what, v));
    }

    int weight(int t, int v) {
        return (int) call(y -> y.weight(t, v));
    }

    int fuse(int v) {
        return (int) call(y -> y.fuse(v));
    }

    int tie(int h, int o) {
        return (int) call(y -> y.tie(h, o));
    }

    int loosens() {
        return (int) call(y -> y.loosens());
    }

    int anew() {
        return (int) call(y -> y.anew());
    }

    int draw(int seed, int n) {
        return (int) call(y -> y.draw(seed, n));
    }

    int of(int h, int what) {
        return (int) call(y -> y.of(h, what));
    }

    int takes(int h, int t) {
        return (int) call(y -> y.takes(h, t));
    }

    int load(int phase, int t) {
        return (int) call(y -> y.load(phase, t));
    }

    int neutral(int t) {
        return (int) call(y -> y.neutral(t));
    }

    int grief() {
        return (int) call(y -> y.grief());
    }

    int good(int what) {
        return (int) call(y -> y.good(what));
    }

    int worst(int what) {
        return (int) call(y -> y.worst(what));
    }

    int change(int h, int phase) {
        return (int) call(y -> y.change(h, phase));
    }

    int swap(int h, int o) {
        return (int) call(y -> y.swap(h, o));
    }

    int step() {
        return (int) call(y -> y.step());
    }

    int down() {
        return (int) call(y -> y.down());
    }

    int lay() {
        return (int) call(y -> y.lay());
    }

    int undo() {
        return (int) call(y -> y.undo());
    }

    int best(int what) {
        return (int) call(y -> y.best(what));
    }

    int phase(int h) {
        return (int) call(y -> y.phase(h));
    }

    int by(int n) {
        return (int) call(y -> y.by(n));
    }

    int fewest(int g) {
        return (int) call(y -> y.fewest(g));
    }

    int many() {
        return (int) call(y -> y.many());
    }

    int next(int what) {
        return (int) call(y -> y.next(what));
    }

    int told(int what) {
        return (int) call(y -> y.told(what));
    }

    long digest() {
        return call(y -> y.digest());
    }
}
