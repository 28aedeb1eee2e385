/** Promises 12 to 16: how it is. */
public final class HowItIsTest {
    private static final int BAD = PhaseLoads.BAD;
    private static final int FAR = Integer.MAX_VALUE, LOW = Integer.MIN_VALUE;

    public static void main(String[] args) {
        load();
        neutral();
        grief();
        safe();
        keeps();
        worstHour();
        worstLoad();
        Check.end();
    }

    private static void load() {
        Run x = new Run();
        for (int p = 0; p < 3; p++) {
            Check.due("12: no houses", x.load(p, 5), 0);
        }
        x.house(1, 4, 0);
        x.house(0, 3, 0);
        x.house(5, 9, 2);
        int[][] loads = {{7, 7, 11, 11, 7, 7}, {0, 0, 0, 0, 0, 0}, {0, 0, -9, -9, -9, -9}};
        for (int p = 0; p < 3; p++) {
            for (int t = 0; t < 6; t++) {
                Check.due("12: load of " + p + " in " + t, x.load(p, t), loads[p][t]);
            }
        }
        x.change(1, 1);
        Check.due("12: less one", x.load(0, 2), 8);
        Check.due("12: one more", x.load(1, 2), 3);
        int[][] bad = {{-1, 0}, {3, 0}, {FAR, 0}, {LOW, 0}, {0, -1}, {0, 6}, {0, FAR}, {0, LOW}};
        for (int[] b : bad) {
            Check.refused(x, "12: bad load", y -> y.load(b[0], b[1]), BAD);
        }
    }

    private static void neutral() {
        Run x = new Run();
        Check.due("13: no houses", x.neutral(0), 0);
        x.house(0, 2, 0);
        x.house(0, 3, 1);
        x.house(0, 5, 2);
        Check.due("13: 2, 3, 5", x.neutral(0), 4 + 9 + 25 - 6 - 15 - 10);
        x.sets(2, 0, 5);
        Check.due("13: 2, 3, 0", x.neutral(0), 4 + 9 - 6);
        Check.due("13: 2, 3, less 5", x.neutral(5), 4 + 9 + 25 - 6 + 15 + 10);
        x.draw(0, 0);
        for (int p = 0; p < 3; p++) {
            x.house(1, 6, p);
        }
        Check.due("13: all alike", x.neutral(2), 0);
        for (int b : new int[] {-1, 6, FAR, LOW}) {
            Check.refused(x, "13: bad neutral", y -> y.neutral(b), BAD);
        }
    }

    private static void grief() {
        Run x = new Run();
        x.house(1, 3, 0);
        x.house(2, 2, 1);
        // by HOURS: (3, 2), (3, 2), (6, 0), (6, 0), (3, 2), (3, 2)
        Check.due("14: by weights of 1", x.grief(), 4 * 7 + 2 * 36);
        for (int t = 0; t < 6; t++) {
            x.weight(t, t);
        }
        Check.due("14: by weights of their own", x.grief(), 7 * (0 + 1 + 4 + 5) + 36 * (2 + 3));
        x.change(0, 1);
        Check.due("14: together", x.grief(), 25 * (0 + 1 + 4 + 5) + 36 * (2 + 3));
        for (int t = 0; t < 6; t++) {
            x.weight(t, 0);
        }
        Check.due("14: none weighs", x.grief(), 0);
        x.draw(0, 0);
        for (int h = 0; h < 9; h++) {
            x.house(4, 20, 2);
        }
        for (int t = 0; t < 6; t++) {
            x.weight(t, 9);
        }
        Check.due("14: the greatest", x.grief(), 2 * 9 * 540 * 540);
    }

    private static void safe() {
        Run x = new Run();
        Check.due("15: no houses are safe", x.good(0), 1);
        x.house(0, 10, 0);
        x.house(5, 12, 1);
        x.fuse(12);
        Check.due("15: as low as the fuse", x.good(0), 1);
        x.fuse(11);
        Check.due("15: below", x.good(0), 0);
        x.sets(1, 1, 1);
        Check.due("15: safe again", x.good(0), 1);
        x.fuse(10);
        Check.due("15: as high as the fuse", x.good(0), 1);
        x.fuse(9);
        Check.due("15: above", x.good(0), 0);
        x.weight(0, 0);
        Check.due("15: hours that weigh nothing count", x.good(0), 0);
        for (int b : new int[] {-1, 2, FAR, LOW}) {
            Check.refused(x, "15: bad good", y -> y.good(b), BAD);
        }
    }

    private static void keeps() {
        Run x = new Run();
        Check.due("15: no houses keep", x.good(1), 1);
        x.house(0, 1, 0);
        x.house(0, 1, 0);
        x.house(0, 1, 1);
        x.house(0, 1, 2);
        Check.due("15: no ties keep", x.good(1), 1);
        x.tie(0, 1);
        Check.due("15: of one phase", x.good(1), 1);
        x.tie(3, 2);
        Check.due("15: of two phases", x.good(1), 0);
        x.change(3, 1);
        Check.due("15: of one again", x.good(1), 1);
        x.tie(1, 2);
        Check.due("15: two pairs apart", x.good(1), 0);
        x.change(0, 1);
        x.change(1, 1);
        Check.due("15: all of one", x.good(1), 1);
        x.change(3, 0);
        Check.due("15: the last one is off", x.good(1), 0);
        x.loosens();
        Check.due("15: loose", x.good(1), 1);
    }

    private static void worstHour() {
        Run x = new Run();
        Check.due("16: all 0: the earliest", x.worst(0), 0);
        x.house(4, 1, 0);
        Check.due("16: 1 and 4 alike: the earliest", x.worst(0), 1);
        x.weight(1, 0);
        Check.due("16: weights are not asked", x.worst(0), 1);
        x.house(5, 1, 1);
        Check.due("16: 4", x.worst(0), 4);
        x.house(3, 20, 2);
        Check.due("16: 2", x.worst(0), 2);
        for (int b : new int[] {-1, 2, FAR, LOW}) {
            Check.refused(x, "16: bad worst", y -> y.worst(b), BAD);
        }
    }

    private static void worstLoad() {
        Run x = new Run();
        Check.due("16: no load", x.worst(1), 0);
        x.house(0, 4, 2);
        Check.due("16: the only one", x.worst(1), 4);
        x.house(5, 5, 1);
        Check.due("16: below 0", x.worst(1), -5);
        x.sets(0, 1, 5);
        Check.due("16: like ones: hour 0 is ahead", x.worst(1), 5);
        x.sets(0, 0, 1);
        x.sets(1, 1, 10);
        Check.due("16: like ones: phase 1 is ahead", x.worst(1), -10);
        x.swap(0, 1);
        Check.due("16: like ones: phase 1 is ahead still", x.worst(1), 10);
    }
}
