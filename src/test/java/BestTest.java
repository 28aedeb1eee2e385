/** Promises 23 to 30: what would be best. */
public final class BestTest {
    private static final int NONE = PhaseLoads.NONE, BAD = PhaseLoads.BAD, NO = PhaseLoads.NO;
    private static final int FAR = Integer.MAX_VALUE, LOW = Integer.MIN_VALUE;

    public static void main(String[] args) {
        best();
        bestOfNoHouses();
        bestWithFixed();
        bestWithTies();
        bestWithTiesToFixed();
        bestWithFuse();
        bestWithoutWeights();
        bestIsRefused();
        bestFollowsEachChange();
        next();
        nextIsRefused();
        told();
        digest();
        digestOfPairs();
        digestOfTheMost();
        Check.end();
    }

    private static void bestIs(String what, Run x, int grief, int changes, int alike, int many) {
        Check.due("23: " + what + ", grief", x.best(0), grief);
        Check.due("23: " + what + ", changes", x.best(1), changes);
        Check.due("23: " + what + ", alike", x.best(2), alike);
        Check.due("27: " + what + ", many", x.many(), many);
    }

    private static void phasesOfBest(String what, Run x, int... phases) {
        for (int h = 0; h < phases.length; h++) {
            Check.due("24: " + what + ", phase of " + h, x.phase(h), phases[h]);
        }
    }

    /** by(0) .. by(9): the last one told holds for all that are more. */
    private static void griefBy(String what, Run x, int... griefs) {
        for (int n = 0; n <= 9; n++) {
            Check.due("25: " + what + ", by " + n, x.by(n), griefs[Math.min(n, griefs.length - 1)]);
        }
    }

    private static void best() {
        Run x = ChangesTest.fiveSteady();
        bestIs("five", x, 0, 2, 6, 243);
        phasesOfBest("five", x, 0, 1, 1, 0, 2);
        griefBy("five", x, 72, 18, 0);
        int[][] fewest = {{0, 2}, {17, 2}, {18, 1}, {71, 1}, {72, 0}, {73, 0}, {FAR, 0}};
        for (int[] f : fewest) {
            Check.due("26: fewest for " + f[0], x.fewest(f[0]), f[1]);
        }
        ChangesTest.phasesAre("23: nothing is laid", x, 0, 0, 1, 1, 2);
        Check.due("23: nothing to undo", x.told(6), 0);
    }

    private static void bestOfNoHouses() {
        Run x = new Run();
        bestIs("none", x, 0, 0, 1, 1);
        griefBy("none", x, 0);
        Check.due("26: none", x.fewest(0), 0);
    }

    private static void bestWithFixed() {
        Run x = ChangesTest.fiveSteady();
        x.sets(1, 2, 1);
        bestIs("one fixed", x, 0, 2, 2, 81);
        phasesOfBest("one fixed", x, 1, 0, 0, 1, 2);
        for (int h = 0; h < 5; h++) {
            x.sets(h, 2, 1);
        }
        bestIs("all fixed", x, 72, 0, 1, 1);
        phasesOfBest("all fixed", x, 0, 0, 1, 1, 2);
        Check.due("26: all fixed", x.fewest(71), NONE);
        Check.due("26: as it is", x.fewest(72), 0);
    }

    private static void bestWithTies() {
        Run x = ChangesTest.fiveSteady();
        x.tie(3, 0);
        bestIs("4 and 1 tied", x, 0, 2, 6, 81);
        phasesOfBest("4 and 1 tied", x, 0, 1, 1, 0, 2);
        griefBy("4 and 1 tied", x, NO, 72, 0);
        Check.due("26: it has to keep", x.fewest(FAR), 1);
        x.tie(1, 2);
        bestIs("two pairs", x, 0, 2, 6, 27);
        x.tie(2, 3);
        bestIs("four tied", x, 450, 2, 6, 9);
        phasesOfBest("four tied", x, 0, 0, 0, 0, 2);
    }

    private static void bestWithTiesToFixed() {
        Run x = ChangesTest.fiveSteady();
        x.tie(0, 2);
        x.sets(0, 2, 1);
        Check.due("27: the lesser is fixed", x.many(), 27);
        Check.due("24: the other follows", x.phase(2), 0);
        x.sets(0, 2, 0);
        x.sets(2, 2, 1);
        Check.due("27: the greater is fixed", x.many(), 27);
        Check.due("24: the lesser follows", x.phase(0), 1);
        x.sets(0, 2, 1);
        Check.due("27: both are fixed apart", x.many(), 0);
        griefBy("both fixed apart", x, NO);
        Check.due("26: both fixed apart", x.fewest(FAR), NONE);
        Check.due("23: both fixed apart", x.best(0), NO);
    }

    private static void bestWithFuse() {
        Run x = ChangesTest.fiveSteady();
        x.fuse(5);
        bestIs("fuse of 5", x, 0, 2, 6, 6);
        griefBy("fuse of 5", x, NO, NO, 0);
        Check.due("26: fuse of 5", x.fewest(FAR), 2);
        x.fuse(4);
        Check.due("27: fuse of 4", x.many(), 0);
        Check.due("26: fuse of 4", x.fewest(FAR), NONE);
        x = new Run();
        x.house(5, 3, 0);
        x.house(5, 3, 0);
        x.fuse(5);
        bestIs("two that give", x, 4 * 9, 1, 6, 6);
        x.house(0, 2, 0);
        x.fuse(4);
        // both that give on one PHASE are safe just with the one that takes: less 3, less 3 and 2
        bestIs("two that give and one", x, 2 * 4 + 4 * 7, 1, 12, 18 + 3);
        x = new Run();
        x.house(4, 1, 0);
        x.house(4, 1, 0);
        x.house(5, 2, 0);
        x.fuse(5);
        Check.due("27: two stoves together are too much in hour 1, with a sun too", x.many(), 18);
    }

    private static void bestWithoutWeights() {
        Run x = ChangesTest.fiveSteady();
        for (int t = 0; t < 6; t++) {
            x.weight(t, 0);
        }
        bestIs("no weights", x, 0, 0, 243, 243);
        phasesOfBest("no weights", x, 0, 0, 1, 1, 2);
        x.weight(4, 1);
        bestIs("one hour", x, 0, 2, 6, 243);
        griefBy("one hour", x, 12, 3, 0);
    }

    private static void bestIsRefused() {
        Run none = new Run();
        Check.refused(none, "24: no house", y -> y.phase(0), BAD);
        Run x = ChangesTest.fiveSteady();
        x.fuse(4);
        x.change(0, 1);
        for (int b : new int[] {-1, 3, FAR, LOW}) {
            Check.refused(x, "23: bad ahead of no", y -> y.best(b), BAD);
        }
        for (int b : new int[] {-1, 5, FAR, LOW}) {
            Check.refused(x, "24: bad ahead of no", y -> y.phase(b), BAD);
        }
        for (int b : new int[] {-1, 10, FAR, LOW}) {
            Check.refused(x, "25: bad ahead of no", y -> y.by(b), BAD);
        }
        for (int b : new int[] {-1, LOW}) {
            Check.refused(x, "26: bad", y -> y.fewest(b), BAD);
        }
        for (int what = 0; what < 3; what++) {
            int w = what;
            Check.refused(x, "23: none", y -> y.best(w), NO);
        }
        Check.refused(x, "24: none", y -> y.phase(0), NO);
        Check.refused(x, "25: none", y -> y.by(9), NO);
    }

    /** What was found ahead of a change may not be told behind it. */
    private static void bestFollowsEachChange() {
        Run x = ChangesTest.fiveSteady();
        Check.due("23: at first", x.best(1), 2);
        x.change(1, 1);
        Check.due("23: behind change", x.best(1), 1);
        x.swap(2, 4);
        Check.due("23: behind swap", x.best(1), 2);
        x.undo();
        Check.due("23: behind undo", x.best(1), 1);
        x.lay();
        Check.due("23: behind lay", x.best(1), 0);
        x.undo();
        x.undo();
        Check.due("23: behind all undone", x.best(1), 2);
        x.step();
        Check.due("23: behind step", x.best(1), 0);
        x.undo();
        Check.due("25: behind undo", x.by(0), 72);
        x.down();
        Check.due("25: behind down", x.by(0), 0);
        x.undo();
        x.sets(4, 1, 2);
        Check.due("23: behind size", x.best(0), 0);
        x.sets(4, 0, 4);
        // a STOVE of 2 with 2, beside 4 and 3, 1: 4, 4, 2 in four HOURS, 4, 4, 8 in two
        Check.due("23: behind sort", x.best(0), 4 * 4 + 2 * 16);
        x.weight(0, 3);
        Check.due("23: behind weight", x.best(0), 6 * 4 + 2 * 16);
        x.fuse(9);
        Check.due("27: behind fuse", x.many(), manyByFuse(x, 9));
        x.tie(0, 1);
        int tied = x.many();
        x.loosens();
        Check.holds("27: behind loosens", x.many() > tied);
        x.house(0, 1, 0);
        Check.holds("27: behind house", x.many() > 243);
        x.fuse(400);
        x.draw(1, 2);
        Check.due("27: behind draw", x.many(), 9);
        x.anew();
        Check.due("27: behind anew", x.many(), 1);
    }

    /** Laid one by one: how many of the five HOUSES' layings are safe. */
    private static int manyByFuse(Run x, int fuse) {
        int[] sorts = new int[5];
        int[] sizes = new int[5];
        for (int h = 0; h < 5; h++) {
            sorts[h] = x.of(h, 0);
            sizes[h] = x.of(h, 1);
        }
        int safe = 0;
        for (int laying = 0; laying < 243; laying++) {
            Run y = new Run();
            int rest = laying;
            for (int h = 0; h < 5; h++) {
                y.house(sorts[h], sizes[h], rest % 3);
                rest /= 3;
            }
            safe += Math.abs(y.worst(1)) <= fuse ? 1 : 0;
        }
        return safe;
    }

    private static void nextIs(String what, Run x, int... answers) {
        for (int i = 0; i < 4; i++) {
            Check.due("28: " + what + ", next " + i, x.next(i), answers[i]);
        }
    }

    private static void next() {
        Run x = ChangesTest.fiveSteady();
        nextIs("swap", x, 0, 1, 0, 2);
        x.sets(0, 2, 1);
        nextIs("one is fixed", x, 0, 1, 1, 3);
        x.tie(3, 4);
        nextIs("two are tied", x, 18, 0, 1, 1);
        ChangesTest.phasesAre("28: nothing is done", x, 0, 0, 1, 1, 2);
        Check.due("28: nothing to undo", x.told(6), 0);
        x = new Run();
        x.house(0, 1, 1);
        nextIs("one that lessens nothing", x, 6, 0, 0, 0);
        x.house(0, 1, 0);
        nextIs("like ones: a change, the least house and phase", x, 6, 0, 0, 2);
        x.house(0, 1, 2);
        nextIs("swaps of all", x, 0, 1, 0, 1);
        x.sets(0, 2, 1);
        nextIs("swaps of the free", x, 0, 1, 1, 2);
    }

    private static void nextIsRefused() {
        Run x = new Run();
        Check.refused(x, "28: no houses", y -> y.next(0), NO);
        x.house(0, 2, 0);
        x.sets(0, 2, 1);
        for (int what = 0; what < 4; what++) {
            int w = what;
            Check.refused(x, "28: fixed", y -> y.next(w), NO);
        }
        x.sets(0, 2, 0);
        x.fuse(1);
        Check.refused(x, "28: none is safe then", y -> y.next(3), NO);
        for (int b : new int[] {-1, 4, FAR, LOW}) {
            Check.refused(x, "28: bad ahead of no", y -> y.next(b), BAD);
        }
    }

    private static void told() {
        Run x = ChangesTest.fiveSteady();
        x.sets(0, 2, 1);
        x.sets(4, 2, 1);
        x.tie(1, 2);
        x.fuse(77);
        x.change(1, 0);
        x.change(2, 0);
        x.change(0, 0);
        x.change(9, 0);
        x.told(8);
        x.told(-1);
        int[] told = {3, 1, 0, 5, 1, 77, 2, 17};
        for (int what = 0; what < 8; what++) {
            Check.due("29: told " + what, x.told(what), told[what]);
        }
        for (int b : new int[] {-1, 8, FAR, LOW}) {
            Check.refused(x, "29: bad told", y -> y.told(b), BAD);
        }
    }

    private static void digest() {
        Run x = ChangesTest.fiveSteady();
        x.weight(3, 8);
        x.fuse(200);
        x.sets(4, 0, 2);
        x.sets(3, 2, 1);
        x.tie(4, 2);
        x.tie(0, 1);
        x.swap(0, 3);
        x.change(0, 1);
        x.fuse(0);
        // LOADS 3, 7, 5, but 3, 7, 0 in HOURS 2, 3
        int[] all = {1, 1, 0, 5, 2, 200, 1, 8,
            0, 4, 1, 0, 3, 0, 0, 2, 1, 0, 1, 1, 2, 5, 2,
            1, 1, 1, 8, 1, 1,
            4, 2, 0, 1,
            12 * 4 + 37 * 9};
        Check.due("30: digest", x.digest(), digestOver(all));
        Check.due("30: digest again", x.digest(), digestOver(all));
    }

    private static long digestOver(int... all) {
        long digest = 2011;
        for (int v : all) {
            digest = 31 * digest + v;
        }
        return digest;
    }

    /** 'pairs TIED as they were told': neither put in order nor as they are TIED by others. */
    private static void digestOfPairs() {
        int[][][] told = {{{0, 1}, {1, 2}}, {{1, 2}, {0, 1}}, {{1, 0}, {2, 1}}, {{2, 0}, {0, 1}}};
        for (int[][] pairs : told) {
            Run x = new Run();
            for (int h = 0; h < 3; h++) {
                x.house(0, 1, h);
            }
            x.tie(pairs[0][0], pairs[0][1]);
            x.tie(pairs[1][0], pairs[1][1]);
            x.tie(1, 2);
            Check.due("30: pairs", x.digest(), digestOver(0, 1, 0, 3, 2, 400, 0, 0,
                0, 1, 0, 0, 1, 1, 0, 1, 2, 1, 1, 1, 1, 1, 1,
                pairs[0][0], pairs[0][1], pairs[1][0], pairs[1][1], 0));
            x.loosens();
            Check.due("30: no pairs", x.digest(), digestOver(0, 1, 0, 3, 0, 400, 0, 0,
                0, 1, 0, 0, 1, 1, 0, 1, 2, 1, 1, 1, 1, 1, 1, 0));
        }
    }

    /** Nine HOUSES, six pairs, eight to undo, all FIXED but one; as a long it goes round. */
    private static void digestOfTheMost() {
        Run x = new Run();
        for (int h = 0; h < 9; h++) {
            x.house(4, 20, 2);
        }
        for (int t = 0; t < 6; t++) {
            x.weight(t, 9);
        }
        for (int h = 0; h < 6; h++) {
            x.tie(h + 1, h);
        }
        for (int h = 0; h < 8; h++) {
            x.sets(h, 2, 1);
        }
        for (int i = 0; i < 12; i++) {
            x.change(8, 2);
        }
        x.house(4, 20, 2);
        int[] all = new int[8 + 27 + 6 + 12 + 1];
        int[] told = {0, 0, 1, 9, 6, 400, 8, 255};
        System.arraycopy(told, 0, all, 0, 8);
        int n = 8;
        for (int h = 0; h < 9; h++) {
            all[n++] = 4;
            all[n++] = 20;
            all[n++] = 2;
        }
        for (int t = 0; t < 6; t++) {
            all[n++] = 9;
        }
        for (int h = 0; h < 6; h++) {
            all[n++] = h + 1;
            all[n++] = h;
        }
        all[n] = 5248800;
        Check.due("30: the most", x.digest(), digestOver(all));
    }
}
