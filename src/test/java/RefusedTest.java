/**
 * 'Refused, changing nothing but how often, the first of: BAD -2 a number is not as told; NO -3 as told; FULL -4 as many
 * as may be.' Check.refused asks for all that can be asked behind each call; told(0) to told(2) show it counted once.
 */
public final class RefusedTest {
    private static final int NONE = PhaseLoads.NONE, BAD = PhaseLoads.BAD, NO = PhaseLoads.NO, FULL = PhaseLoads.FULL;
    private static final int FAR = Integer.MAX_VALUE, LOW = Integer.MIN_VALUE;

    public static void main(String[] args) {
        badAheadOfFull();
        noAheadOfFull();
        badAheadOfNo();
        badAheadOfNone();
        twiceBadIsCountedOnce();
        twiceNoIsCountedOnce();
        nothingChangesInABusyStreet();
        nothingChangesWhereThereIsABest();
        whatIsNeverRefused();
        howOftenIsCounted();
        howOftenStays();
        Check.end();
    }

    /** Nine HOUSES, six pairs, three FIXED ones, eight calls to undo, WEIGHTS and FUSE of their own; some were refused. */
    private static Run busy() {
        Run x = new Run();
        x.draw(17, 9);
        int[][] pairs = {{8, 7}, {5, 6}, {7, 6}, {1, 0}, {3, 2}, {2, 8}};
        for (int[] pair : pairs) {
            x.tie(pair[0], pair[1]);
        }
        for (int t = 0; t < 6; t++) {
            x.weight(t, (t + 7) % 10);
        }
        x.fuse(251);
        // 0 and 1 are TIED and lie on two PHASES, so no laying KEEPS; 4 is the only one that is not TIED
        x.change(0, 0);
        x.change(1, 1);
        x.sets(0, 2, 1);
        x.sets(1, 2, 1);
        x.sets(4, 2, 1);
        for (int i = 0; i < 11; i++) {
            x.change(2 + i % 2, i % 3);
        }
        x.house(6, 0, 3);
        x.change(0, 0);
        x.change(1, 1);
        x.house(5, 20, 2);
        x.house(5, 20, 2);
        x.house(5, 20, 2);
        return x;
    }

    /** Nine HOUSES that can be laid, two pairs, one FIXED, three calls to undo. */
    private static Run open() {
        Run x = new Run();
        x.draw(4242, 9);
        x.tie(3, 7);
        x.tie(0, 8);
        x.sets(2, 2, 1);
        x.weight(1, 9);
        x.weight(2, 0);
        x.fuse(120);
        x.change(0, 1);
        x.swap(4, 6);
        x.change(8, 1);
        return x;
    }

    /** HOUSES 0 to 4 that no FUSE of 4 lets be SAFE. */
    private static Run blown() {
        Run x = ChangesTest.fiveSteady();
        x.fuse(4);
        x.change(0, 1);
        return x;
    }

    private static void badAheadOfFull() {
        Run x = new Run();
        x.draw(5, 9);
        Check.refused(x, "2: SORT and a tenth", y -> y.house(6, 1, 0), BAD);
        Check.refused(x, "2: SIZE 0 and a tenth", y -> y.house(0, 0, 0), BAD);
        Check.refused(x, "2: SIZE 21 and a tenth", y -> y.house(0, 21, 0), BAD);
        Check.refused(x, "2: PHASE and a tenth", y -> y.house(0, 1, 3), BAD);
        Check.refused(x, "2: just a tenth", y -> y.house(0, 1, 0), FULL);
        x = busy();
        Check.refused(x, "6: alike and a seventh pair", y -> y.tie(4, 4), BAD);
        Check.refused(x, "6: no HOUSE and a seventh pair", y -> y.tie(4, 9), BAD);
        Check.refused(x, "6: no HOUSE first and a seventh pair", y -> y.tie(-1, 4), BAD);
        Check.refused(x, "6: just a seventh pair", y -> y.tie(4, 0), FULL);
    }

    private static void noAheadOfFull() {
        Run x = busy();
        Check.refused(x, "6: a pair told already and a seventh", y -> y.tie(8, 7), NO);
        Check.refused(x, "6: a pair the other way and a seventh", y -> y.tie(0, 1), NO);
        Check.refused(x, "6: TIED by others and a seventh", y -> y.tie(3, 5), NO);
        Check.refused(x, "6: not TIED and a seventh", y -> y.tie(3, 1), FULL);
    }

    private static void badAheadOfNo() {
        Run x = busy();
        Check.refused(x, "17: PHASE 3 of a FIXED one", y -> y.change(0, 3), BAD);
        Check.refused(x, "17: PHASE -1 of a FIXED one", y -> y.change(4, -1), BAD);
        Check.refused(x, "17: just FIXED", y -> y.change(4, 2), NO);
        Check.refused(x, "18: a FIXED one and itself", y -> y.swap(4, 4), BAD);
        Check.refused(x, "18: a FIXED one and no HOUSE", y -> y.swap(4, 9), BAD);
        Check.refused(x, "18: no HOUSE and a FIXED one", y -> y.swap(-1, 4), BAD);
        Check.refused(x, "18: just FIXED", y -> y.swap(4, 2), NO);
        Run[] withoutLayings = {busy(), blown()};
        for (Run none : withoutLayings) {
            Check.due("27: none", none.many(), 0);
            Check.refused(none, "23: best 3 of none", y -> y.best(3), BAD);
            Check.refused(none, "23: best -1 of none", y -> y.best(-1), BAD);
            Check.refused(none, "23: best 2 of none", y -> y.best(2), NO);
            Check.refused(none, "24: phase 9 of none", y -> y.phase(9), BAD);
            Check.refused(none, "24: phase -1 of none", y -> y.phase(-1), BAD);
            Check.refused(none, "24: phase 4 of none", y -> y.phase(4), NO);
            Check.refused(none, "25: by 10 of none", y -> y.by(10), BAD);
            Check.refused(none, "25: by -1 of none", y -> y.by(-1), BAD);
            Check.refused(none, "25: by 0 of none", y -> y.by(0), NO);
            Check.refused(none, "25: by 9 of none", y -> y.by(9), NO);
            Check.refused(none, "28: next 4 of none", y -> y.next(4), BAD);
            Check.refused(none, "28: next -1 of none", y -> y.next(-1), BAD);
            Check.refused(none, "28: next 3 of none", y -> y.next(3), NO);
        }
        Run empty = new Run();
        Check.refused(empty, "28: next 4 without HOUSES", y -> y.next(4), BAD);
        Check.refused(empty, "28: next 0 without HOUSES", y -> y.next(0), NO);
        Check.refused(empty, "24: phase without HOUSES", y -> y.phase(0), BAD);
    }

    /** NONE is an answer: it is not counted, and BAD is ahead of it. */
    private static void badAheadOfNone() {
        Run x = blown();
        Check.refused(x, "26: g of -1 and none", y -> y.fewest(-1), BAD);
        Check.refused(x, "26: the least g and none", y -> y.fewest(LOW), BAD);
        long ahead = x.digest();
        Check.due("26: none", x.fewest(0), NONE);
        Check.due("26: none by any", x.fewest(FAR), NONE);
        Check.due("26: nothing is counted", x.digest(), ahead);
    }

    private static void twiceBadIsCountedOnce() {
        Run.Call[] calls = {
            y -> y.house(-1, 0, -1), y -> y.house(6, 21, 3), y -> y.house(LOW, FAR, LOW), y -> y.sets(9, 3, -1),
            y -> y.sets(-1, -1, -1), y -> y.sets(0, 3, 21), y -> y.sets(9, 1, 0), y -> y.weight(6, 10),
            y -> y.weight(-1, -1), y -> y.tie(-1, 9), y -> y.tie(9, 9), y -> y.tie(LOW, LOW), y -> y.draw(-1, -1),
            y -> y.draw(1000000, 10), y -> y.of(9, 5), y -> y.of(-1, -1), y -> y.takes(9, 6), y -> y.takes(-1, -1),
            y -> y.load(3, 6), y -> y.load(-1, -1), y -> y.change(9, 3), y -> y.change(-1, -1), y -> y.swap(9, 9),
            y -> y.swap(-1, 9), y -> y.swap(FAR, FAR)};
        for (int i = 0; i < calls.length; i++) {
            Check.refused(new Run(), "BAD twice, no HOUSES, call " + i, calls[i], BAD);
            Check.refused(open(), "BAD twice, open, call " + i, calls[i], BAD);
            Check.refused(busy(), "BAD twice, busy, call " + i, calls[i], BAD);
        }
    }

    private static void twiceNoIsCountedOnce() {
        Check.refused(busy(), "18: both are FIXED", y -> y.swap(0, 1), NO);
        Check.refused(busy(), "18: both are FIXED, about", y -> y.swap(4, 0), NO);
        Run x = blown();
        x.tie(0, 4);
        x.sets(0, 2, 1);
        x.sets(4, 2, 1);
        Check.refused(x, "21: none KEEPS, none is SAFE", y -> y.lay(), NO);
        Check.refused(x, "23: none KEEPS, none is SAFE", y -> y.best(0), NO);
    }

    private static void nothingChangesInABusyStreet() {
        int[] told = {1, 2, 3, 9, 6, 251, 8, 19};
        Run x = busy();
        for (int what = 0; what < 8; what++) {
            Check.due("busy, told " + what, x.told(what), told[what]);
        }
        Run.Call[] noes = {
            y -> y.tie(0, 1), y -> y.tie(2, 6), y -> y.change(0, 1), y -> y.change(0, 0), y -> y.swap(1, 2),
            y -> y.swap(2, 1), y -> y.step(), y -> y.lay(), y -> y.best(0), y -> y.best(1), y -> y.best(2),
            y -> y.phase(0), y -> y.phase(8), y -> y.by(0), y -> y.by(9), y -> y.next(0), y -> y.next(1),
            y -> y.next(2), y -> y.next(3)};
        for (int i = 0; i < noes.length; i++) {
            Check.refused(busy(), "busy, NO " + i, noes[i], NO);
        }
        Run.Call[] fulls = {y -> y.house(0, 1, 0), y -> y.house(5, 20, 2), y -> y.tie(0, 2), y -> y.tie(4, 8)};
        for (int i = 0; i < fulls.length; i++) {
            Check.refused(busy(), "busy, FULL " + i, fulls[i], FULL);
        }
        Run.Call[] bads = {
            y -> y.house(0, 1, 3), y -> y.sets(9, 0, 0), y -> y.sets(0, 3, 0), y -> y.sets(0, 0, 6),
            y -> y.sets(0, 1, 0), y -> y.sets(0, 2, 2), y -> y.weight(0, 10), y -> y.weight(6, 1), y -> y.fuse(0),
            y -> y.fuse(401), y -> y.draw(0, 10), y -> y.draw(1000000, 3), y -> y.of(9, 0), y -> y.of(0, 5),
            y -> y.takes(0, 6), y -> y.load(3, 0), y -> y.neutral(6), y -> y.good(2), y -> y.worst(2),
            y -> y.fewest(-1), y -> y.told(8), y -> y.told(-1)};
        for (int i = 0; i < bads.length; i++) {
            Check.refused(busy(), "busy, BAD " + i, bads[i], BAD);
        }
    }

    private static void nothingChangesWhereThereIsABest() {
        Check.holds("27: there are some", open().many() > 0);
        Run.Call[] bads = {
            y -> y.house(0, 0, 0), y -> y.sets(0, 2, -1), y -> y.sets(2, 1, 21), y -> y.weight(2, -1),
            y -> y.fuse(-120), y -> y.tie(3, 3), y -> y.draw(-1, 9), y -> y.draw(3, -1), y -> y.of(-1, 2),
            y -> y.takes(-1, 2), y -> y.load(-1, 2), y -> y.neutral(-1), y -> y.good(-1), y -> y.worst(-1),
            y -> y.change(1, 3), y -> y.swap(1, 1), y -> y.best(3), y -> y.phase(9), y -> y.by(10), y -> y.by(-1),
            y -> y.fewest(LOW), y -> y.next(4), y -> y.told(FAR)};
        for (int i = 0; i < bads.length; i++) {
            Check.refused(open(), "open, BAD " + i, bads[i], BAD);
        }
        Run.Call[] noes = {y -> y.tie(7, 3), y -> y.change(2, 0), y -> y.swap(2, 5), y -> y.swap(5, 2)};
        for (int i = 0; i < noes.length; i++) {
            Check.refused(open(), "open, NO " + i, noes[i], NO);
        }
        Check.refused(open(), "open, FULL", y -> y.house(0, 1, 0), FULL);
        Run down = open();
        down.down();
        Check.refused(down, "19: none lessens, behind down", y -> y.step(), NO);
        Run undone = open();
        for (int left = 2; left >= 0; left--) {
            Check.due("22: undone", undone.undo(), left);
        }
        Check.refused(undone, "22: none can, behind three", y -> y.undo(), NO);
        Check.refused(undone, "22: none can, again", y -> y.undo(), NO);
    }

    private static void whatIsNeverRefused() {
        Run[] all = {new Run(), ChangesTest.fiveSteady(), blown(), open(), busy()};
        for (Run x : all) {
            int[] ahead = {x.told(0), x.told(1), x.told(2)};
            x.grief();
            x.many();
            x.down();
            x.down();
            x.digest();
            x.loosens();
            x.loosens();
            x.anew();
            x.anew();
            for (int why = 0; why < 3; why++) {
                Check.due("7, 8, 14, 20, 27, 30: never refused", x.told(why), ahead[why]);
            }
        }
    }

    /** As many as an object's calls let be: the 512th one still answers. */
    private static void howOftenIsCounted() {
        Run x = new Run();
        x.draw(1, 9);
        int each = (Run.MOST_CALLS - 4) / 3;
        for (int i = 0; i < each; i++) {
            Check.due("29: BAD", x.neutral(6), BAD);
            Check.due("29: NO", x.undo(), NO);
            Check.due("29: FULL", x.house(0, 1, 0), FULL);
        }
        for (int why = 0; why < 3; why++) {
            Check.due("29: how often", x.told(why), each);
        }
        Run bads = new Run();
        for (int i = 1; i < Run.MOST_CALLS; i++) {
            bads.told(8);
        }
        Check.due("29: the last of all calls", bads.told(0), Run.MOST_CALLS - 1);
        Check.due("29: all calls are used", bads.callsLeft(), 0);
    }

    /** What takes everything else away leaves how often. */
    private static void howOftenStays() {
        Run x = busy();
        x.loosens();
        x.draw(3, 2);
        x.anew();
        int[] told = {1, 2, 3, 0, 0, 400, 0, 0};
        for (int what = 0; what < 8; what++) {
            Check.due("8: told " + what + " behind draw, anew", x.told(what), told[what]);
        }
    }
}
