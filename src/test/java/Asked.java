import java.util.LinkedHashMap;
import java.util.Map;

/** All that can be asked of an object, each answer under the call that gave it. */
final class Asked {
    private static final int HOURS = 6;

    private final Run x;
    private final int houses;
    private final Map<String, Long> answers = new LinkedHashMap<>();

    private Asked(Run x) {
        this.x = x;
        this.houses = x.told(3);
    }

    /** The object is spent by it: what can be undone, WEIGHTS and FUSE are asked by calls that change them. */
    static Map<String, Long> all(Run x) {
        Asked asked = new Asked(x);
        asked.whatIsTold();
        asked.theStreet();
        asked.howItIs();
        asked.whatWouldBeBest();
        asked.whatCanBeUndone();
        asked.whatWasSet();
        return asked.answers;
    }

    /** Ahead of all else: what is asked further on may be refused itself, and counted. */
    private void whatIsTold() {
        for (int what = 0; what < 8; what++) {
            note("told(" + what + ")", x.told(what));
        }
        note("digest()", x.digest());
    }

    private void theStreet() {
        for (int h = 0; h < houses; h++) {
            for (int what = 0; what < 5; what++) {
                note("of(" + h + ", " + what + ")", x.of(h, what));
            }
            for (int t = 0; t < HOURS; t++) {
                note("takes(" + h + ", " + t + ")", x.takes(h, t));
            }
        }
    }

    private void howItIs() {
        for (int t = 0; t < HOURS; t++) {
            for (int p = 0; p < 3; p++) {
                note("load(" + p + ", " + t + ")", x.load(p, t));
            }
            note("neutral(" + t + ")", x.neutral(t));
        }
        note("grief()", x.grief());
        for (int what = 0; what < 2; what++) {
            note("good(" + what + ")", x.good(what));
            note("worst(" + what + ")", x.worst(what));
        }
    }

    private void whatWouldBeBest() {
        for (int what = 0; what < 3; what++) {
            note("best(" + what + ")", x.best(what));
        }
        for (int h = 0; h < houses; h++) {
            note("phase(" + h + ")", x.phase(h));
        }
        for (int n = 0; n < 10; n++) {
            note("by(" + n + ")", x.by(n));
        }
        for (int g : new int[] {0, 1000, Integer.MAX_VALUE}) {
            note("fewest(" + g + ")", x.fewest(g));
        }
        note("many()", x.many());
        for (int what = 0; what < 4; what++) {
            note("next(" + what + ")", x.next(what));
        }
    }

    private void whatCanBeUndone() {
        for (int i = 0; i < 9; i++) {
            note("undo " + i, x.undo());
            for (int h = 0; h < houses; h++) {
                note("of(" + h + ", 2) behind undo " + i, x.of(h, 2));
            }
        }
    }

    private void whatWasSet() {
        for (int t = 0; t < HOURS; t++) {
            note("weight(" + t + ", 1)", x.weight(t, 1));
        }
        note("fuse(400)", x.fuse(400));
        note("loosens()", x.loosens());
        note("anew()", x.anew());
    }

    private void note(String call, long answer) {
        answers.put(call, answer);
    }
}
