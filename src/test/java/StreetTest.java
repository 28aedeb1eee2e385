/** Promises 1 to 11: the street. */
public final class StreetTest {
    private static final int BAD = PhaseLoads.BAD, NO = PhaseLoads.NO, FULL = PhaseLoads.FULL;
    private static final int FAR = Integer.MAX_VALUE, LOW = Integer.MIN_VALUE;

    public static void main(String[] args) {
        newObject();
        everyCallOnANewObject();
        house();
        theLastHouse();
        houseIsRefused();
        sets();
        setsIsRefused();
        setsOfFixedAndTied();
        weight();
        fuse();
        tie();
        tieIsRefused();
        loosens();
        anew();
        draw();
        drawIsRefused();
        of();
        takes();
        whatIsToldLeavesNoneToUndo();
        Check.end();
    }

    private static void newObject() {
        Run x = new Run();
        int[] told = {0, 0, 0, 0, 0, 400, 0, 0};
        long digest = 2011;
        for (int what = 0; what < 8; what++) {
            Check.due("1: new told " + what, x.told(what), told[what]);
            digest = 31 * digest + told[what];
        }
        for (int i = 0; i < 6; i++) {
            digest = 31 * digest + 1;
        }
        digest = 31 * digest;
        Check.due("1: new digest", x.digest(), digest);
        Check.due("1: new grief", x.grief(), 0);
        Check.due("1: new many", x.many(), 1);
        for (int t = 0; t < 6; t++) {
            Check.due("1: new weight " + t, x.weight(t, 1), 1);
        }
        Check.due("1: new fuse", x.fuse(400), 400);
        x.house(0, 1, 0);
        Check.due("1: objects are apart", new Run().told(3), 0);
    }

    private static void everyCallOnANewObject() {
        Run.Call[] calls = {
            y -> y.house(0, 1, 0), y -> y.sets(0, 0, 0), y -> y.weight(5, 9), y -> y.fuse(1), y -> y.tie(0, 1),
            y -> y.loosens(), y -> y.anew(), y -> y.draw(0, 0), y -> y.draw(0, 9), y -> y.of(0, 0),
            y -> y.takes(0, 0), y -> y.load(2, 5), y -> y.neutral(5), y -> y.grief(), y -> y.good(0),
            y -> y.good(1), y -> y.worst(0), y -> y.worst(1), y -> y.change(0, 0), y -> y.swap(0, 1),
            y -> y.step(), y -> y.down(), y -> y.lay(), y -> y.undo(), y -> y.best(0),
            y -> y.best(1), y -> y.best(2), y -> y.phase(0), y -> y.by(0), y -> y.by(9),
            y -> y.fewest(0), y -> y.many(), y -> y.next(0), y -> y.told(5)};
        int[] answers = {
            0, BAD, 1, 400, BAD,
            0, 0, 0, 9, BAD,
            BAD, 0, 0, 0, 1,
            1, 0, 0, BAD, BAD,
            NO, 0, 0, NO, 0,
            0, 1, BAD, 0, 0,
            0, 1, NO, 400};
        for (int i = 0; i < calls.length; i++) {
            Check.due("1: call " + i + " on a new object", new Run().call(calls[i]), answers[i]);
            if (answers[i] == BAD || answers[i] == NO) {
                Check.refused(new Run(), "1: call " + i + " on a new object", calls[i], answers[i]);
            }
        }
    }

    private static void house() {
        Run x = new Run();
        for (int h = 0; h < 9; h++) {
            Check.due("2: house", x.house(h % 6, h == 0 ? 1 : h == 8 ? 20 : h + 5, h % 3), h);
            Check.due("2: houses", x.told(3), h + 1);
        }
        for (int h = 0; h < 9; h++) {
            Check.due("2: sort", x.of(h, 0), h % 6);
            Check.due("2: size", x.of(h, 1), h == 0 ? 1 : h == 8 ? 20 : h + 5);
            Check.due("2: phase", x.of(h, 2), h % 3);
            Check.due("2: not fixed", x.of(h, 3), 0);
            Check.due("2: not tied", x.of(h, 4), h);
        }
    }

    /** HOUSE 8 is one as all others: of nine like ones on PHASE 0 it is asked by every call. */
    private static void theLastHouse() {
        Run x = new Run();
        for (int h = 0; h < 9; h++) {
            x.house(0, 2, 0);
        }
        Check.due("3: SORT", x.sets(8, 0, 5), 0);
        Check.due("3: SIZE", x.sets(8, 1, 20), 2);
        Check.due("3: FIXED", x.sets(8, 2, 1), 0);
        Check.due("29: FIXED bits", x.told(7), 256);
        Check.due("3: not FIXED", x.sets(8, 2, 0), 1);
        Check.due("11: takes", x.takes(8, 5), -20);
        Check.due("6: tie", x.tie(8, 7), 1);
        Check.due("10: the least TIED", x.of(8, 4), 7);
        Check.due("7: loosens", x.loosens(), 1);
        Check.due("17: change", x.change(8, 2), 0);
        Check.due("12: load", x.load(2, 5), -20);
        Check.due("10: PHASE", x.of(8, 2), 2);
        x.swap(8, 0);
        Check.due("18: PHASE behind swap", x.of(8, 2), 0);
        Check.due("18: PHASE of the other", x.of(0, 2), 2);
        Check.due("12: load behind swap", x.load(0, 5), 7 * 2 - 20);
        x.anew();
        for (int h = 0; h < 9; h++) {
            x.house(0, 2, h / 3);
        }
        x.change(8, 1);
        // HOUSES 3, 4, 5 or 8 could go to PHASE 2; that HOUSE 3, 4 and 5 stay on 1 is the first of these
        Check.due("24: phase", x.phase(8), 2);
        Check.due("24: the others stay", x.phase(3) + x.phase(4) + x.phase(5), 3);
        Check.due("28: of like STEPS the first", x.next(2), 3);
        x.sets(3, 2, 1);
        x.sets(4, 2, 1);
        x.sets(5, 2, 1);
        Check.due("28: the others are FIXED", x.next(2), 8);
        Check.due("28: its PHASE", x.next(3), 2);
    }

    private static void houseIsRefused() {
        Run x = new Run();
        int[][] bad = {{-1, 1, 0}, {6, 1, 0}, {0, 0, 0}, {0, 21, 0}, {0, 1, -1}, {0, 1, 3}, {FAR, 1, 0}, {LOW, 1, 0},
            {0, FAR, 0}, {0, LOW, 0}, {0, 1, FAR}, {0, 1, LOW}};
        for (int[] b : bad) {
            Check.refused(x, "2: bad house", y -> y.house(b[0], b[1], b[2]), BAD);
        }
        x.draw(5, 9);
        x.change(0, 1);
        Check.refused(x, "2: a tenth house", y -> y.house(0, 1, 0), FULL);
        Check.refused(x, "2: bad ahead of full", y -> y.house(0, 0, 0), BAD);
        Check.due("2: full once", x.told(2), 1);
    }

    private static void sets() {
        Run x = new Run();
        x.house(0, 5, 0);
        x.house(1, 6, 1);
        Check.due("3: sort was", x.sets(1, 0, 4), 1);
        Check.due("3: sort was, then", x.sets(1, 0, 5), 4);
        Check.due("3: sort is", x.of(1, 0), 5);
        Check.due("3: size was", x.sets(1, 1, 20), 6);
        Check.due("3: size was, then", x.sets(1, 1, 1), 20);
        Check.due("3: size is", x.of(1, 1), 1);
        Check.due("3: not fixed", x.sets(1, 2, 1), 0);
        Check.due("3: fixed", x.of(1, 3), 1);
        Check.due("3: fixed bits", x.told(7), 2);
        Check.due("3: fixed twice", x.sets(1, 2, 1), 1);
        Check.due("3: freed", x.sets(1, 2, 0), 1);
        Check.due("3: free", x.of(1, 3), 0);
        Check.due("3: the other stays", x.of(0, 0) * 100 + x.of(0, 1), 5);
        // SUN of 1 on PHASE 1, STEADY of 5 on PHASE 0
        Check.due("3: loads follow", x.load(1, 2), -1);
        Check.due("3: neutral follows", x.neutral(2), 25 + 1 + 5);
    }

    /** FIXED, TIED ones may not be laid elsewhere; what they are can be set all the same. */
    private static void setsOfFixedAndTied() {
        Run x = new Run();
        x.house(0, 5, 0);
        x.house(1, 6, 1);
        x.sets(0, 2, 1);
        Check.due("6: a FIXED one, of another PHASE", x.tie(0, 1), 1);
        Check.due("3: SORT of a FIXED one", x.sets(0, 0, 3), 0);
        Check.due("3: SIZE of a FIXED one", x.sets(0, 1, 9), 5);
        Check.due("3: SORT of a TIED one", x.sets(1, 0, 4), 1);
        Check.due("3: SIZE of a TIED one", x.sets(1, 1, 1), 6);
        Check.due("3: FIXED, a TIED one", x.sets(1, 2, 1), 0);
        Check.due("3: its PHASE stays", x.of(0, 2) * 10 + x.of(1, 2), 1);
        Check.due("3: it is TIED yet", x.of(1, 4), 0);
        Check.due("3: as it is", x.sets(0, 0, 3) * 100 + x.sets(0, 1, 9) * 10 + x.sets(0, 2, 1), 391);
        Check.due("3: a SHOP of 9", x.load(0, 2), 18);
        Check.due("3: a STOVE of 1", x.load(1, 1), 3);
    }

    private static void setsIsRefused() {
        Run x = new Run();
        Check.refused(x, "3: no house", y -> y.sets(0, 0, 0), BAD);
        x.house(0, 5, 0);
        x.house(1, 6, 1);
        x.change(0, 2);
        int[][] bad = {{-1, 0, 0}, {2, 0, 0}, {FAR, 0, 0}, {LOW, 0, 0}, {0, -1, 1}, {0, 3, 1}, {0, FAR, 1}, {0, LOW, 1},
            {0, 0, -1}, {0, 0, 6}, {0, 1, 0}, {0, 1, 21}, {0, 2, -1}, {0, 2, 2}, {0, 2, FAR}, {0, 1, LOW}};
        for (int[] b : bad) {
            Check.refused(x, "3: bad sets", y -> y.sets(b[0], b[1], b[2]), BAD);
        }
    }

    private static void weight() {
        Run x = new Run();
        x.house(4, 2, 0);
        // a STOVE of 2 takes 6 in HOURS 1 and 4
        Check.due("4: grief at first", x.grief(), 72);
        Check.due("4: was", x.weight(1, 9), 1);
        Check.due("4: grief weighs", x.grief(), 9 * 36 + 36);
        Check.due("4: was, then", x.weight(1, 0), 9);
        Check.due("4: grief without", x.grief(), 36);
        Check.due("4: last hour", x.weight(5, 7), 1);
        Check.due("4: was 0", x.weight(1, 1), 0);
        x.change(0, 1);
        int[][] bad = {{-1, 1}, {6, 1}, {0, -1}, {0, 10}, {FAR, 1}, {LOW, 1}, {0, FAR}, {0, LOW}};
        for (int[] b : bad) {
            Check.refused(x, "4: bad weight", y -> y.weight(b[0], b[1]), BAD);
        }
        Check.due("4: bad ones changed none", x.weight(0, 1), 1);
    }

    private static void fuse() {
        Run x = new Run();
        Check.due("5: was", x.fuse(1), 400);
        Check.due("5: is", x.told(5), 1);
        Check.due("5: was, then", x.fuse(400), 1);
        x.house(0, 1, 0);
        x.change(0, 1);
        for (int b : new int[] {0, 401, -1, FAR, LOW}) {
            Check.refused(x, "5: bad fuse", y -> y.fuse(b), BAD);
        }
    }

    private static void tie() {
        Run x = new Run();
        x.draw(3, 9);
        int[] phases = new int[9];
        for (int h = 0; h < 9; h++) {
            phases[h] = x.of(h, 2);
        }
        int[][] pairs = {{8, 7}, {5, 6}, {7, 6}, {1, 0}, {3, 2}, {2, 8}};
        for (int i = 0; i < 6; i++) {
            Check.due("6: pairs", x.tie(pairs[i][0], pairs[i][1]), i + 1);
        }
        Check.due("6: pairs told", x.told(4), 6);
        int[] least = {0, 0, 2, 2, 4, 2, 2, 2, 2};
        for (int h = 0; h < 9; h++) {
            Check.due("6: the least tied of " + h, x.of(h, 4), least[h]);
            Check.due("6: phases stay", x.of(h, 2), phases[h]);
        }
    }

    private static void tieIsRefused() {
        Run x = new Run();
        Check.refused(x, "6: no houses", y -> y.tie(0, 1), BAD);
        x.draw(3, 9);
        x.tie(0, 1);
        x.tie(2, 1);
        x.change(3, 1);
        int[][] bad = {{0, 0}, {-1, 0}, {0, -1}, {9, 0}, {0, 9}, {FAR, 0}, {0, LOW}, {FAR, FAR}};
        for (int[] b : bad) {
            Check.refused(x, "6: bad tie", y -> y.tie(b[0], b[1]), BAD);
        }
        Check.refused(x, "6: tied already", y -> y.tie(0, 1), NO);
        Check.refused(x, "6: tied the other way", y -> y.tie(1, 0), NO);
        Check.refused(x, "6: tied by others", y -> y.tie(0, 2), NO);
        x.tie(3, 4);
        x.tie(4, 5);
        x.tie(5, 6);
        x.tie(7, 8);
        Check.refused(x, "6: a seventh pair", y -> y.tie(0, 8), FULL);
        Check.refused(x, "6: no ahead of full", y -> y.tie(3, 6), NO);
        Check.refused(x, "6: bad ahead of all", y -> y.tie(3, 3), BAD);
    }

    private static void loosens() {
        Run x = new Run();
        Check.due("7: none", x.loosens(), 0);
        x.draw(3, 5);
        x.tie(4, 3);
        x.tie(3, 1);
        Check.due("7: two", x.loosens(), 2);
        Check.due("7: none then", x.loosens(), 0);
        Check.due("7: pairs told", x.told(4), 0);
        for (int h = 0; h < 5; h++) {
            Check.due("7: loose", x.of(h, 4), h);
        }
        Check.due("7: tied again", x.tie(4, 3), 1);
        Check.due("7: houses stay", x.told(3), 5);
    }

    private static void anew() {
        Run x = new Run();
        Check.due("8: none", x.anew(), 0);
        x.draw(3, 5);
        x.tie(0, 1);
        x.sets(2, 2, 1);
        x.weight(0, 9);
        x.weight(5, 0);
        x.fuse(7);
        x.fuse(0);
        x.tie(0, 1);
        Check.due("8: five", x.anew(), 5);
        int[] told = {1, 1, 0, 0, 0, 400, 0, 0};
        for (int what = 0; what < 8; what++) {
            Check.due("8: told " + what, x.told(what), told[what]);
        }
        Check.due("8: grief", x.grief(), 0);
        Check.due("8: load", x.load(0, 0) + x.load(1, 0) + x.load(2, 0), 0);
        Check.due("8: weight 0", x.weight(0, 1), 1);
        Check.due("8: weight 5", x.weight(5, 1), 1);
        Check.due("8: houses from 0", x.house(0, 1, 0), 0);
        Check.due("8: loose", x.of(0, 4), 0);
        Check.due("8: not fixed", x.of(0, 3), 0);
        x.house(0, 1, 0);
        Check.due("8: ties from 1", x.tie(0, 1), 1);
    }

    private static void draw() {
        for (int seed : new int[] {0, 1, 7, 12345, 999998, 999999}) {
            for (int n = 0; n <= 9; n++) {
                drawInPlaceOfTwo(seed, n);
            }
        }
    }

    private static void drawInPlaceOfTwo(int seed, int n) {
        Run x = new Run();
        x.weight(2, 5);
        x.fuse(333);
        x.house(0, 1, 0);
        x.house(0, 1, 0);
        x.sets(0, 2, 1);
        x.tie(0, 1);
        Check.due("9: draw", x.draw(seed, n), n);
        Check.due("9: houses", x.told(3), n);
        Check.due("9: no ties", x.told(4), 0);
        Check.due("9: none fixed", x.told(7), 0);
        compareDrawn(x, seed, n);
        Check.due("9: weight stays", x.weight(2, 1), 5);
        Check.due("9: fuse stays", x.fuse(400), 333);
    }

    private static void compareDrawn(Run x, int seed, int n) {
        java.math.BigInteger big = java.math.BigInteger.valueOf(seed);
        for (int h = 0; h < n; h++) {
            big = big.multiply(java.math.BigInteger.valueOf(1103515245)).add(java.math.BigInteger.valueOf(12345));
            big = big.mod(java.math.BigInteger.valueOf(2147483648L));
            int v = big.intValueExact();
            Check.due("9: sort", x.of(h, 0), (v / 65536) % 6);
            Check.due("9: size", x.of(h, 1), (v / 1024) % 20 + 1);
            Check.due("9: phase", x.of(h, 2), (v / 32768) % 3);
            Check.due("9: loose", x.of(h, 4), h);
        }
    }

    private static void drawIsRefused() {
        Run x = new Run();
        x.draw(4, 4);
        x.tie(0, 1);
        x.change(2, 1);
        int[][] bad = {{-1, 3}, {1000000, 3}, {0, -1}, {0, 10}, {FAR, 3}, {LOW, 3}, {0, FAR}, {0, LOW}};
        for (int[] b : bad) {
            Check.refused(x, "9: bad draw", y -> y.draw(b[0], b[1]), BAD);
        }
    }

    private static void of() {
        Run x = new Run();
        Check.refused(x, "10: no house", y -> y.of(0, 0), BAD);
        x.house(3, 11, 2);
        x.house(1, 2, 0);
        x.house(1, 3, 1);
        x.sets(0, 2, 1);
        x.tie(2, 1);
        Check.due("10: sort", x.of(0, 0), 3);
        Check.due("10: size", x.of(0, 1), 11);
        Check.due("10: phase", x.of(0, 2), 2);
        Check.due("10: fixed", x.of(0, 3), 1);
        Check.due("10: itself", x.of(0, 4), 0);
        Check.due("10: the least tied", x.of(2, 4), 1);
        Check.due("10: the least itself", x.of(1, 4), 1);
        int[][] bad = {{-1, 0}, {3, 0}, {FAR, 0}, {LOW, 0}, {0, -1}, {0, 5}, {0, FAR}, {0, LOW}};
        for (int[] b : bad) {
            Check.refused(x, "10: bad of", y -> y.of(b[0], b[1]), BAD);
        }
    }

    private static void takes() {
        int[][] times = {
            {1, 1, 1, 1, 1, 1},
            {1, 1, 2, 2, 1, 1},
            {1, 1, 0, 0, 1, 1},
            {0, 1, 2, 2, 1, 0},
            {0, 3, 0, 0, 3, 0},
            {0, 0, -1, -1, -1, -1},
        };
        for (int size : new int[] {1, 7, 20}) {
            Run x = new Run();
            for (int sort = 0; sort < 6; sort++) {
                x.house(sort, size, sort % 3);
                for (int t = 0; t < 6; t++) {
                    Check.due("11: sort " + sort + " in hour " + t, x.takes(sort, t), size * times[sort][t]);
                }
            }
            int[][] bad = {{-1, 0}, {6, 0}, {FAR, 0}, {LOW, 0}, {0, -1}, {0, 6}, {0, FAR}, {0, LOW}};
            for (int[] b : bad) {
                Check.refused(x, "11: bad takes", y -> y.takes(b[0], b[1]), BAD);
            }
        }
    }

    private static void whatIsToldLeavesNoneToUndo() {
        Run.Call[] told = {
            y -> y.house(0, 1, 0), y -> y.sets(0, 0, 1), y -> y.sets(0, 1, 3), y -> y.sets(0, 2, 0),
            y -> y.weight(0, 1), y -> y.fuse(400), y -> y.tie(0, 1), y -> y.loosens(), y -> y.anew(),
            y -> y.draw(1, 3)};
        for (int i = 0; i < told.length; i++) {
            Run x = new Run();
            x.draw(2, 4);
            x.change(0, 1);
            x.change(0, 2);
            Check.due("22: two to undo", x.told(6), 2);
            x.call(told[i]);
            Check.due("22: none to undo behind call " + i, x.told(6), 0);
            Check.refused(x, "22: undo behind call " + i, y -> y.undo(), NO);
        }
    }
}
