/** Promises 17 to 22: changes. */
public final class ChangesTest {
    private static final int BAD = PhaseLoads.BAD, NO = PhaseLoads.NO;
    private static final int FAR = Integer.MAX_VALUE, LOW = Integer.MIN_VALUE;

    public static void main(String[] args) {
        change();
        swap();
        stepByChange();
        stepBySwap();
        stepsThatMayNotBe();
        stepOutOfUnsafe();
        down();
        lay();
        layIsRefused();
        undo();
        undoOfEachKind();
        Check.end();
    }

    /** STEADY ones of 4, 3 on PHASE 0, 2, 1 on PHASE 1, 5 on PHASE 2: LOADS 7, 3, 5, GRIEF 6 times 12. */
    static Run fiveSteady() {
        Run x = new Run();
        x.house(0, 4, 0);
        x.house(0, 3, 0);
        x.house(0, 2, 1);
        x.house(0, 1, 1);
        x.house(0, 5, 2);
        return x;
    }

    static void phasesAre(String what, Run x, int... phases) {
        Check.due(what + ", houses", x.told(3), phases.length);
        for (int h = 0; h < phases.length; h++) {
            Check.due(what + ", phase of " + h, x.of(h, 2), phases[h]);
        }
    }

    private static void change() {
        Run x = new Run();
        Check.refused(x, "17: no house", y -> y.change(0, 0), BAD);
        x = fiveSteady();
        x.tie(0, 1);
        x.fuse(1);
        Check.due("17: was", x.change(0, 2), 0);
        Check.due("17: was, then", x.change(0, 1), 2);
        Check.due("17: as it is", x.change(0, 1), 1);
        phasesAre("17", x, 1, 0, 1, 1, 2);
        Check.due("17: each is a D", x.told(6), 3);
        int[][] bad = {{-1, 0}, {5, 0}, {FAR, 0}, {LOW, 0}, {0, -1}, {0, 3}, {0, FAR}, {0, LOW}};
        for (int[] b : bad) {
            Check.refused(x, "17: bad change", y -> y.change(b[0], b[1]), BAD);
        }
        x.sets(2, 2, 1);
        x.change(0, 0);
        Check.refused(x, "17: fixed", y -> y.change(2, 0), NO);
        Check.refused(x, "17: fixed, as it is", y -> y.change(2, 1), NO);
        Check.refused(x, "17: bad ahead of fixed", y -> y.change(2, 3), BAD);
    }

    private static void swap() {
        Run x = new Run();
        Check.refused(x, "18: no houses", y -> y.swap(0, 1), BAD);
        x = fiveSteady();
        x.tie(0, 1);
        x.fuse(1);
        Check.due("18: 5, 5, 5", x.swap(0, 2), 0);
        phasesAre("18", x, 1, 0, 0, 1, 2);
        Check.due("18: back", x.swap(2, 0), 72);
        Check.due("18: of one phase", x.swap(0, 1), 72);
        phasesAre("18: back", x, 0, 0, 1, 1, 2);
        Check.due("18: each is a D", x.told(6), 3);
        int[][] bad = {{0, 0}, {-1, 0}, {0, -1}, {5, 0}, {0, 5}, {FAR, 0}, {0, LOW}, {FAR, FAR}};
        for (int[] b : bad) {
            Check.refused(x, "18: bad swap", y -> y.swap(b[0], b[1]), BAD);
        }
        x.sets(1, 2, 1);
        x.change(0, 0);
        Check.refused(x, "18: the first is fixed", y -> y.swap(1, 2), NO);
        Check.refused(x, "18: the other is fixed", y -> y.swap(2, 1), NO);
        Check.refused(x, "18: bad ahead of fixed", y -> y.swap(1, 1), BAD);
    }

    private static void stepByChange() {
        Run x = new Run();
        Check.refused(x, "19: no houses", y -> y.step(), NO);
        x.house(0, 1, 0);
        x.house(0, 1, 0);
        x.house(0, 1, 0);
        Check.due("19: 2, 1, 0", x.step(), 18);
        phasesAre("19: the first of like ones", x, 1, 0, 0);
        Check.due("19: 1, 1, 1", x.step(), 0);
        phasesAre("19: the least house", x, 1, 2, 0);
        Check.due("19: each is a D", x.told(6), 2);
        Check.refused(x, "19: none lessens", y -> y.step(), NO);
        x.weight(0, 0);
        Check.refused(x, "19: none lessens still", y -> y.step(), NO);
    }

    private static void stepBySwap() {
        Run x = fiveSteady();
        Check.due("19: swap", x.step(), 0);
        phasesAre("19: the lesser house's", x, 1, 0, 0, 1, 2);
        x = fiveSteady();
        x.sets(0, 2, 1);
        Check.due("19: swap, one is fixed", x.step(), 0);
        phasesAre("19: one is fixed", x, 0, 1, 1, 0, 2);
        x = new Run();
        x.house(0, 2, 0);
        x.house(0, 2, 0);
        x.house(0, 2, 1);
        Check.due("19: a change and a swap alike: the change", x.step(), 0);
        phasesAre("19: changes first", x, 2, 0, 1);
    }

    private static void stepsThatMayNotBe() {
        Run x = fiveSteady();
        x.tie(0, 4);
        Check.due("19: tied ones stay", x.step(), 0);
        phasesAre("19: the untied ones", x, 0, 1, 1, 0, 2);
        x = fiveSteady();
        x.tie(0, 4);
        x.tie(1, 2);
        x.sets(3, 2, 1);
        Check.refused(x, "19: all tied or fixed", y -> y.step(), NO);
        Check.due("20: all tied or fixed", x.down(), 0);
        Check.due("20: no D", x.told(6), 0);
        x = fiveSteady();
        x.sets(2, 2, 1);
        x.sets(3, 2, 1);
        x.sets(4, 2, 1);
        x.tie(0, 1);
        Check.refused(x, "19: tied to the first house", y -> y.step(), NO);
        x = fiveSteady();
        x.fuse(4);
        Check.refused(x, "19: none is safe then", y -> y.step(), NO);
    }

    private static void stepOutOfUnsafe() {
        Run x = fiveSteady();
        x.fuse(6);
        Check.due("19: unsafe at first", x.good(0), 0);
        Check.due("19: into a safe one", x.step(), 0);
        x = new Run();
        x.house(5, 9, 0);
        x.house(5, 9, 0);
        x.house(0, 1, 1);
        x.fuse(8);
        Check.refused(x, "19: too much given", y -> y.step(), NO);
        x.fuse(9);
        Check.holds("19: into what gives no more than the fuse", x.step() > 0);
        Check.due("19: safe then", x.good(0), 1);
    }

    private static void down() {
        Run x = new Run();
        Check.due("20: no houses", x.down(), 0);
        for (int h = 0; h < 3; h++) {
            x.house(0, 1, 0);
        }
        Check.due("20: two steps", x.down(), 2);
        phasesAre("20", x, 1, 2, 0);
        Check.due("20: one D", x.told(6), 1);
        Check.due("20: no more", x.down(), 0);
        Check.due("20: no D without steps", x.told(6), 1);
        Check.due("20: never refused", x.told(1), 0);
        Check.due("20: undone at once", x.undo(), 0);
        phasesAre("20: undone", x, 0, 0, 0);
        Run y = new Run();
        for (int seed = 0; seed < 40; seed++) {
            x.draw(seed, 9);
            y.draw(seed, 9);
            int steps = x.down();
            for (int i = 0; i < steps; i++) {
                Check.holds("20: as many as by step", y.step() >= 0);
            }
            Check.due("20: no further step", y.step(), NO);
            Check.due("20: the same grief", x.grief(), y.grief());
        }
    }

    private static void lay() {
        Run x = new Run();
        Check.due("21: no houses", x.lay(), 0);
        Check.due("21: a D", x.told(6), 1);
        x = fiveSteady();
        Check.due("21: two change", x.lay(), 2);
        phasesAre("21: the first", x, 0, 1, 1, 0, 2);
        Check.due("21: grief", x.grief(), 0);
        Check.due("21: none changes", x.lay(), 0);
        Check.due("21: a D each", x.told(6), 2);
        x = fiveSteady();
        x.sets(1, 2, 1);
        Check.due("21: two change, one is fixed", x.lay(), 2);
        phasesAre("21: one is fixed", x, 1, 0, 0, 1, 2);
        x = fiveSteady();
        x.tie(1, 4);
        x.tie(0, 1);
        Check.due("21: tied ones", x.lay(), 2);
        phasesAre("21: tied ones together", x, 0, 0, 1, 2, 0);
        x = new Run();
        for (int h = 0; h < 9; h++) {
            x.house(0, 7, 0);
        }
        Check.due("21: six of nine", x.lay(), 6);
        phasesAre("21: nine", x, 0, 0, 0, 1, 1, 1, 2, 2, 2);
        Check.due("21: nine, grief", x.grief(), 0);
        Check.due("21: nine, undone", x.undo(), 0);
        phasesAre("21: nine, undone", x, 0, 0, 0, 0, 0, 0, 0, 0, 0);
    }

    private static void layIsRefused() {
        Run x = fiveSteady();
        x.fuse(4);
        x.change(0, 1);
        Check.refused(x, "21: none is safe", y -> y.lay(), NO);
        x = fiveSteady();
        x.tie(0, 2);
        x.sets(0, 2, 1);
        x.sets(2, 2, 1);
        Check.refused(x, "21: none keeps", y -> y.lay(), NO);
    }

    private static void undo() {
        Run x = new Run();
        Check.refused(x, "22: none", y -> y.undo(), NO);
        x.house(0, 1, 0);
        x.house(0, 2, 1);
        int[] phases = {1, 2, 0, 1, 0, 2, 1, 0, 2, 1};
        for (int i = 0; i < phases.length; i++) {
            x.change(0, phases[i]);
            Check.due("22: eight at most", x.told(6), Math.min(i + 1, 8));
        }
        for (int i = 0; i < 8; i++) {
            Check.due("22: how many yet", x.undo(), 7 - i);
            Check.due("22: phase ahead", x.of(0, 2), phases[8 - i]);
            Check.due("22: load follows", x.load(phases[8 - i], 0), phases[8 - i] == 1 ? 3 : 1);
        }
        Check.refused(x, "22: older ones are lost", y -> y.undo(), NO);
        Check.due("22: as ahead of the eighth last", x.of(0, 2), 2);
        x.change(0, 0);
        Check.due("22: one again", x.undo(), 0);
    }

    private static void undoOfEachKind() {
        Run x = fiveSteady();
        x.change(4, 0);
        x.swap(0, 2);
        x.step();
        x.down();
        x.lay();
        int left = x.told(6);
        for (int i = 0; i < left; i++) {
            x.undo();
        }
        phasesAre("22: all undone", x, 0, 0, 1, 1, 2);
        Check.due("22: grief as it was", x.grief(), 72);
    }
}
