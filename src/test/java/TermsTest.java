/** The sentences of 'Terms' that name a range, a first, a boundary or which of like ones: a test for each. */
public final class TermsTest {
    private static final int BAD = PhaseLoads.BAD, NO = PhaseLoads.NO, FULL = PhaseLoads.FULL;
    private static final int STEADY = 0, DAY = 1, NIGHT = 2, SHOP = 3, STOVE = 4, SUN = 5;

    public static void main(String[] args) {
        housesAsTheyCome();
        notFixedAtFirst();
        weightsAreOneAtFirst();
        sortsByTheHour();
        sunIsANightTwoHoursOn();
        loadsBelowZeroToo();
        neutralIsZeroJustIfAlike();
        griefTakesEachHourOnce();
        fuseIsFourHundredAtFirst();
        asMuchAsTheFuseIsSafe();
        asLittleAsLessTheFuseIsSafe();
        anyHourOfAnyPhaseCanBlowTheFuse();
        whatGivesHelpsItsOwnPhaseAlone();
        tiedOnesOfTiedOnes();
        layingsThatAreLookedFor();
        leastGriefIsAheadOfFewestChanges();
        fewestChangesAreAheadOfTheFirst();
        theFirstOfLikeOnes();
        allLayingsAreAlike();
        bestByChanges();
        changeIsToAnotherPhase();
        swapIsOfUnlikePhases();
        fixedAndTiedMayNotStep();
        aStepHasToBeSafeThen();
        likeSteps();
        downEndsWhereGriefIsNotLess();
        eightCanBeUndone();
        eightOfAnyKindCanBeUndone();
        undoneOnesMakeRoom();
        eachCallToldDIsOne();
        onlyWhatIsToldDCanBeUndone();
        askingLeavesWhatCanBeUndone();
        Check.end();
    }

    private static void steady(Run x, int... sizesAndPhases) {
        for (int i = 0; i < sizesAndPhases.length; i += 2) {
            x.house(STEADY, sizesAndPhases[i], sizesAndPhases[i + 1]);
        }
    }

    private static void nextIs(String what, Run x, int... answers) {
        for (int i = 0; i < 4; i++) {
            Check.due(what + ", next " + i, x.next(i), answers[i]);
        }
    }

    // ---- 1: HOUSES 0 .. 8, as they come

    private static void housesAsTheyCome() {
        Run x = new Run();
        Check.due("no HOUSES at first", x.told(3), 0);
        for (int h = 0; h <= 8; h++) {
            Check.due("HOUSES as they come", x.house(STEADY, 1, 0), h);
        }
        Check.due("there is no HOUSE 9", x.house(STEADY, 1, 0), FULL);
        x.draw(1, 8);
        Check.due("HOUSE 8 behind a draw of eight", x.house(STEADY, 1, 0), 8);
        Check.due("no HOUSE 9 behind it", x.house(STEADY, 1, 0), FULL);
        x.draw(1, 9);
        Check.due("no HOUSE 9 behind a draw of nine", x.house(STEADY, 1, 0), FULL);
        x.draw(1, 0);
        Check.due("HOUSE 0 behind a draw of none", x.house(STEADY, 1, 0), 0);
        x.anew();
        Check.due("HOUSE 0 anew", x.house(STEADY, 1, 0), 0);
    }

    private static void notFixedAtFirst() {
        Run x = new Run();
        Check.due("none is FIXED without HOUSES", x.told(7), 0);
        for (int h = 0; h < 9; h++) {
            x.house(STEADY, 1, 0);
            Check.due("not FIXED as it comes", x.of(h, 3), 0);
            Check.due("bits ahead", x.told(7), (1 << h) - 1);
            x.sets(h, 2, 1);
        }
        Check.due("all nine are FIXED", x.told(7), 511);
        for (int h = 0; h < 8; h++) {
            x.sets(h, 2, 0);
        }
        Check.due("just HOUSE 8 is FIXED", x.told(7), 256);
        x.draw(2, 9);
        Check.due("none is FIXED that is drawn", x.told(7), 0);
        x.sets(0, 2, 1);
        x.anew();
        Check.due("none is FIXED anew", x.told(7), 0);
        x.house(STEADY, 1, 0);
        Check.due("none is FIXED that comes then", x.of(0, 3), 0);
    }

    private static void weightsAreOneAtFirst() {
        for (int t = 0; t < 6; t++) {
            Run x = new Run();
            Check.due("WEIGHT is 1 at first", x.weight(t, 9), 1);
            Check.due("WEIGHT can be 9", x.weight(t, 0), 9);
            Check.due("WEIGHT can be 0", x.weight(t, 9), 0);
            for (int other = 0; other < 6; other++) {
                Check.due("the others stay", x.weight(other, 1), other == t ? 9 : 1);
            }
            x.weight(t, 5);
            x.anew();
            Check.due("WEIGHT is 1 anew", x.weight(t, 5), 1);
        }
    }

    private static void takesByHour(String what, int sort, int... due) {
        for (int size : new int[] {1, 20}) {
            Run x = new Run();
            x.house(sort, size, 0);
            for (int t = 0; t < 6; t++) {
                Check.due(what + " of " + size + " in HOUR " + t, x.takes(0, t), size * due[t]);
            }
        }
    }

    private static void sortsByTheHour() {
        takesByHour("STEADY", STEADY, 1, 1, 1, 1, 1, 1);
        takesByHour("DAY: twice in 2, 3", DAY, 1, 1, 2, 2, 1, 1);
        takesByHour("NIGHT: 0 in 2, 3", NIGHT, 1, 1, 0, 0, 1, 1);
        takesByHour("SHOP: a DAY, 0 in 0, 5", SHOP, 0, 1, 2, 2, 1, 0);
        takesByHour("STOVE: three times in 1, 4, else 0", STOVE, 0, 3, 0, 0, 3, 0);
    }

    /** 'HOUR t and 2, by 6 left over': HOURS 4 and 5 look at 0 and 1, in which a NIGHT takes. */
    private static void sunIsANightTwoHoursOn() {
        takesByHour("SUN", SUN, 0, 0, -1, -1, -1, -1);
        Run x = new Run();
        x.house(NIGHT, 13, 0);
        x.house(SUN, 13, 1);
        int[] hourOn = {2, 3, 4, 5, 0, 1};
        for (int t = 0; t < 6; t++) {
            Check.due("SUN in HOUR " + t, x.takes(1, t), -x.takes(0, hourOn[t]));
        }
    }

    private static void loadsBelowZeroToo() {
        Run x = new Run();
        for (int h = 0; h < 9; h++) {
            x.house(SUN, 20, 2);
        }
        int[] least = {0, 0, -180, -180, -180, -180};
        for (int t = 0; t < 6; t++) {
            Check.due("nine SUNS, HOUR " + t, x.load(2, t), least[t]);
            Check.due("none beside them", x.load(0, t) + x.load(1, t), 0);
        }
        Check.due("by how far from 0", x.worst(1), -180);
        for (int h = 0; h < 9; h++) {
            x.sets(h, 0, STOVE);
        }
        int[] most = {0, 540, 0, 0, 540, 0};
        for (int t = 0; t < 6; t++) {
            Check.due("nine STOVES, HOUR " + t, x.load(2, t), most[t]);
        }
        Check.due("the greatest of all", x.worst(1), 540);
        x.draw(0, 0);
        x.house(STEADY, 7, 1);
        x.house(SUN, 7, 1);
        Check.due("what takes and what gives are together", x.load(1, 2), 0);
        Check.due("but not in HOUR 1", x.load(1, 1), 7);
    }

    private static void neutralIsZeroJustIfAlike() {
        Run x = new Run();
        steady(x, 20, 0, 20, 1, 20, 2);
        Check.due("alike", x.neutral(0), 0);
        x.sets(2, 1, 19);
        Check.due("one less", x.neutral(0), 1);
        x.sets(1, 1, 19);
        Check.due("two less", x.neutral(0), 1);
        x.sets(0, 1, 18);
        Check.due("18, 19, 19", x.neutral(0), 1);
        x.sets(2, 1, 20);
        Check.due("18, 19, 20", x.neutral(0), 3);
        for (int h = 0; h < 3; h++) {
            x.sets(h, 0, SUN);
            x.sets(h, 1, 20);
        }
        Check.due("alike below 0", x.neutral(5), 0);
        Check.due("alike at 0", x.neutral(0), 0);
        x.sets(0, 0, STEADY);
        Check.due("20, -20, -20", x.neutral(5), 1600);
        for (int p = 0; p < 3; p++) {
            Run one = new Run();
            one.house(SUN, 3, p);
            Check.due("-3 on PHASE " + p, one.neutral(2), 9);
        }
    }

    private static void griefTakesEachHourOnce() {
        int[] neutrals = {0, 81, 0, 0, 81, 0};
        Run x = new Run();
        x.house(STOVE, 3, 1);
        for (int t = 0; t < 6; t++) {
            x.weight(t, 0);
        }
        Check.due("no HOUR weighs", x.grief(), 0);
        for (int t = 0; t < 6; t++) {
            x.weight(t, 9);
            Check.due("just HOUR " + t + " weighs", x.grief(), 9 * neutrals[t]);
            x.weight(t, 0);
        }
        Run most = new Run();
        for (int h = 0; h < 9; h++) {
            most.house(STOVE, 20, 0);
        }
        most.weight(1, 9);
        most.weight(4, 9);
        Check.due("the most of all", most.grief(), 5248800);
        Check.due("the most of all, by none", most.by(0), NO);
        Check.due("1 and 1: the first of like HOURS", most.worst(0), 1);
    }

    // ---- 1: FUSE, SAFE, TIES, KEEPS

    private static void fuseIsFourHundredAtFirst() {
        Run x = new Run();
        Check.due("FUSE at first", x.told(5), 400);
        Check.due("FUSE at first, was", x.fuse(1), 400);
        Check.due("the least", x.told(5), 1);
        Check.due("the least, was", x.fuse(400), 1);
        Check.due("the greatest", x.told(5), 400);
        x.fuse(2);
        x.anew();
        Check.due("FUSE anew", x.told(5), 400);
        x.fuse(3);
        x.draw(3, 3);
        Check.due("FUSE stays when drawn", x.told(5), 3);
    }

    /** Six STOVES and two STEADY ones of 20 take 400 in HOUR 1. */
    private static void asMuchAsTheFuseIsSafe() {
        Run x = new Run();
        for (int h = 0; h < 8; h++) {
            x.house(h < 6 ? STOVE : STEADY, 20, 1);
        }
        Check.due("400", x.load(1, 1), 400);
        Check.due("400 is SAFE by 400", x.good(0), 1);
        Check.due("400 by none", x.by(0), x.grief());
        x.house(STEADY, 1, 1);
        Check.due("401 is not", x.good(0), 0);
        Check.due("401 by none", x.by(0), NO);
        x.change(8, 0);
        Check.due("400 and 1 are", x.good(0), 1);
        x.fuse(399);
        Check.due("400 is not by 399", x.good(0), 0);
        Run one = new Run();
        one.fuse(1);
        one.house(STEADY, 1, 2);
        Check.due("1 is SAFE by 1", one.good(0), 1);
        one.sets(0, 1, 2);
        Check.due("2 is not", one.good(0), 0);
    }

    private static void asLittleAsLessTheFuseIsSafe() {
        Run x = new Run();
        for (int h = 0; h < 9; h++) {
            x.house(SUN, 20, 0);
        }
        x.fuse(180);
        Check.due("-180 is SAFE by 180", x.good(0), 1);
        Check.due("-180 by none", x.by(0), x.grief());
        x.fuse(179);
        Check.due("-180 is not by 179", x.good(0), 0);
        Check.due("-180 by none, 179", x.by(0), NO);
        x.sets(8, 1, 19);
        Check.due("-179 is SAFE by 179", x.good(0), 1);
        Run one = new Run();
        one.fuse(1);
        one.house(SUN, 1, 1);
        Check.due("-1 is SAFE by 1", one.good(0), 1);
        one.sets(0, 1, 2);
        Check.due("-2 is not", one.good(0), 0);
    }

    /** Each SORT takes the most in other HOURS; that these weigh nothing is not asked. */
    private static void anyHourOfAnyPhaseCanBlowTheFuse() {
        int[] sorts = {STEADY, DAY, NIGHT, SHOP, STOVE, SUN};
        int[] most = {1, 2, 1, 2, 3, 1};
        for (int i = 0; i < sorts.length; i++) {
            for (int p = 0; p < 3; p++) {
                Run x = new Run();
                x.house(sorts[i], 10, p);
                for (int t = 0; t < 6; t++) {
                    x.weight(t, 0);
                }
                x.fuse(10 * most[i]);
                Check.due("SORT " + i + " on PHASE " + p, x.good(0), 1);
                Check.due("SORT " + i + ", looked for", x.many(), 3);
                x.fuse(10 * most[i] - 1);
                Check.due("SORT " + i + " on PHASE " + p + ", more than FUSE", x.good(0), 0);
                Check.due("SORT " + i + ", not looked for", x.many(), 0);
            }
        }
        // two NIGHTS and a SUN: 10 in HOURS 0, 1, less 5 in 2, 3, and 5 in 4, 5
        Run x = new Run();
        x.house(NIGHT, 5, 0);
        x.house(NIGHT, 5, 0);
        x.house(SUN, 5, 0);
        x.fuse(9);
        Check.due("10 in HOUR 0, though 5 in HOUR 5", x.good(0), 0);
        x.fuse(10);
        Check.due("10 in HOUR 0 by 10", x.good(0), 1);
    }

    /** 16 of two DAYS in HOURS 2, 3 is too much by a FUSE of 15, but for a SUN of 1 on the same PHASE. */
    private static void whatGivesHelpsItsOwnPhaseAlone() {
        Run x = new Run();
        x.house(DAY, 5, 0);
        x.house(DAY, 3, 0);
        x.house(SUN, 1, 1);
        x.fuse(15);
        Check.due("16 beside a SUN", x.good(0), 0);
        Check.due("both DAYS together, the SUN elsewhere: 6 of 27", x.many(), 21);
        x.change(2, 0);
        Check.due("16 with a SUN", x.good(0), 1);
        // and less 11 of two SUNS in HOURS 2 to 5 by a FUSE of 10, but for a STEADY one of 1
        Run below = new Run();
        below.house(SUN, 5, 2);
        below.house(SUN, 6, 2);
        below.house(STEADY, 1, 0);
        below.fuse(10);
        Check.due("-11 beside a STEADY one", below.good(0), 0);
        Check.due("both SUNS together, the STEADY one elsewhere: 6 of 27", below.many(), 21);
        below.change(2, 2);
        Check.due("-11 with a STEADY one", below.good(0), 1);
    }

    private static void tiedOnesOfTiedOnes() {
        Run x = new Run();
        for (int h = 0; h < 9; h++) {
            x.house(STEADY, 1, 0);
        }
        // a chain of seven, told from its ends to its middle
        int[][] pairs = {{0, 1}, {7, 6}, {1, 2}, {5, 6}, {4, 5}, {2, 4}};
        for (int i = 0; i < 6; i++) {
            Check.due("pairs", x.tie(pairs[i][0], pairs[i][1]), i + 1);
            Check.due("KEEPS", x.good(1), 1);
        }
        int[] least = {0, 0, 0, 3, 0, 0, 0, 0, 8};
        for (int h = 0; h < 9; h++) {
            Check.due("the least TIED of " + h, x.of(h, 4), least[h]);
            Run moved = x.twin();
            moved.change(h, 2);
            Check.due("KEEPS without HOUSE " + h, moved.good(1), h == 3 || h == 8 ? 1 : 0);
        }
        Check.due("its two ends are TIED", x.tie(7, 0), NO);
        Check.due("3 and 8 are not", x.tie(3, 8), FULL);
        Check.due("three apart", x.many(), 27);
        Check.due("six pairs go", x.loosens(), 6);
        Check.due("none is left", x.told(4), 0);
        Check.due("3 and 8 then", x.tie(3, 8), 1);
    }

    // ---- 2: LAYINGS

    private static void layingsThatAreLookedFor() {
        Run x = new Run();
        int power = 1;
        Check.due("no HOUSES: just one", x.many(), 1);
        for (int h = 0; h < 9; h++) {
            x.house(STEADY, 1, 0);
            power *= 3;
            Check.due("all PHASES of " + (h + 1), x.many(), power);
        }
        for (int h = 0; h < 9; h++) {
            x.sets(h, 2, 1);
            power /= 3;
            Check.due("all but " + (h + 1) + " FIXED", x.many(), power);
        }
        x.fuse(8);
        Check.due("all FIXED, not SAFE", x.many(), 0);
        x.fuse(9);
        Check.due("all FIXED, SAFE", x.many(), 1);
        x.tie(0, 8);
        Check.due("all FIXED, KEEPING", x.many(), 1);
        x.sets(8, 2, 0);
        Check.due("TIED to a FIXED one", x.many(), 1);
        x.change(8, 1);
        Check.due("it has to come back", x.best(1), 1);
        Check.due("to the FIXED one's PHASE", x.phase(8), 0);
        Check.due("by none it does not KEEP", x.by(0), NO);
        x.sets(8, 2, 1);
        Check.due("two FIXED ones that do not KEEP", x.many(), 0);
        x.loosens();
        Check.due("without TIES", x.many(), 1);
    }

    /** 3, 0, 0: by two changes 1, 1, 1; no fewer make as little GRIEF. */
    private static void leastGriefIsAheadOfFewestChanges() {
        Run x = new Run();
        steady(x, 1, 0, 1, 0, 1, 0);
        Check.due("least", x.best(0), 0);
        Check.due("by two", x.best(1), 2);
        Check.due("by one", x.by(1), 6 * 3);
        Check.due("by none", x.by(0), 6 * 9);
    }

    /** HOUSES on PHASES 2, 1, 0: 0, 1, 2 is ahead of it, but by two changes. */
    private static void fewestChangesAreAheadOfTheFirst() {
        Run x = new Run();
        steady(x, 4, 2, 4, 1, 4, 0);
        Check.due("none changes", x.best(1), 0);
        Check.due("six are alike", x.best(2), 6);
        int[] phases = {2, 1, 0};
        for (int h = 0; h < 3; h++) {
            Check.due("as they lie", x.phase(h), phases[h]);
        }
        Check.due("nothing is laid", x.lay(), 0);
        // 2, 1, 1: the third goes to 0 by one change, though 0, 1, 2 would be ahead of it
        x.change(2, 1);
        Check.due("one changes", x.best(1), 1);
        int[] then = {2, 0, 1};
        for (int h = 0; h < 3; h++) {
            Check.due("of two by one change the first", x.phase(h), then[h]);
        }
    }

    private static void theFirstOfLikeOnes() {
        Run x = new Run();
        steady(x, 1, 1, 1, 1);
        // by one change: 0, 1 and 1, 0 and 1, 2 and 2, 1
        Check.due("HOUSE 0's PHASE least", x.phase(0), 0);
        Check.due("HOUSE 1 stays", x.phase(1), 1);
        x.sets(0, 2, 1);
        Check.due("HOUSE 0 is FIXED", x.phase(0), 1);
        Check.due("then HOUSE 1's PHASE least", x.phase(1), 0);
        Run nine = new Run();
        for (int h = 0; h < 9; h++) {
            nine.house(STEADY, 7, 2);
        }
        for (int h = 0; h < 9; h++) {
            Check.due("nine: HOUSE " + h, nine.phase(h), h / 3);
        }
    }

    /** No HOUR weighs: nine HOUSES' layings all have no GRIEF, and the one of now has the fewest changes. */
    private static void allLayingsAreAlike() {
        Run x = new Run();
        x.draw(99, 9);
        for (int t = 0; t < 6; t++) {
            x.weight(t, 0);
        }
        Check.due("no GRIEF", x.best(0), 0);
        Check.due("no changes", x.best(1), 0);
        Check.due("all are alike", x.best(2), 19683);
        Check.due("all are looked for", x.many(), 19683);
        for (int h = 0; h < 9; h++) {
            Check.due("as it lies", x.phase(h), x.of(h, 2));
        }
        Check.due("by none", x.by(0), 0);
        Check.due("for none", x.fewest(0), 0);
        Check.due("no STEP lessens it", x.step(), NO);
        nextIs("the first CHANGE of all", x, 0, 0, 0, x.of(0, 2) == 0 ? 1 : 0);
        Check.due("laid as it lies", x.lay(), 0);
    }

    /** 20 is FIXED on PHASE 0 with eight of 5: all eight have to go. */
    private static void bestByChanges() {
        Run x = new Run();
        x.house(STEADY, 20, 0);
        x.sets(0, 2, 1);
        for (int h = 0; h < 8; h++) {
            x.house(STEADY, 5, 0);
        }
        int[] sums = {60, 55, 50, 45, 40, 35, 30, 25, 20, 20};
        int[] more = {0, 5, 5, 10, 10, 15, 15, 20, 20, 20};
        int[] less = {0, 0, 5, 5, 10, 10, 15, 15, 20, 20};
        for (int n = 0; n <= 9; n++) {
            int neutral = sums[n] * sums[n] + more[n] * more[n] + less[n] * less[n]
                - sums[n] * more[n] - more[n] * less[n] - less[n] * sums[n];
            Check.due("by " + n, x.by(n), 6 * neutral);
        }
        Check.due("eight change", x.best(1), 8);
        Check.due("for none", x.fewest(0), 8);
        Check.due("for one less than by seven", x.fewest(6 * 75 - 1), 8);
        Check.due("for as much as by seven", x.fewest(6 * 75), 7);
        Check.due("for one more", x.fewest(6 * 75 + 1), 7);
        Check.due("for one less than now", x.fewest(6 * 3600 - 1), 1);
        Check.due("for as much as now", x.fewest(6 * 3600), 0);
        Check.due("for the most", x.fewest(Integer.MAX_VALUE), 0);
        Check.due("by 10 is no number", x.by(10), BAD);
        Check.due("laid", x.lay(), 8);
        Check.due("laid, GRIEF", x.grief(), 0);
    }

    // ---- 2: STEPS

    private static void changeIsToAnotherPhase() {
        for (int p = 0; p < 3; p++) {
            Run x = new Run();
            steady(x, 3, p);
            nextIs("not to its own PHASE " + p, x, 54, 0, 0, p == 0 ? 1 : 0);
            Check.due("it lessens nothing", x.step(), NO);
        }
    }

    /** 5, 4, 3 with a FUSE of 5: no CHANGE is SAFE, just SWAPS; and none of them of one PHASE. */
    private static void swapIsOfUnlikePhases() {
        Run x = new Run();
        steady(x, 5, 0, 4, 1, 3, 2);
        x.fuse(5);
        nextIs("a SWAP of the first two", x, 18, 1, 0, 1);
        Check.due("it lessens nothing", x.step(), NO);
        // 2 and 2, 4, 4, of which the two of 4 are FIXED: no CHANGE is SAFE, and a SWAP of the others is none
        Run alike = new Run();
        steady(alike, 2, 0, 2, 0, 4, 1, 4, 2);
        alike.sets(2, 2, 1);
        alike.sets(3, 2, 1);
        alike.fuse(4);
        Check.due("not of one PHASE", alike.next(0), NO);
        alike.sets(2, 2, 0);
        alike.fuse(6);
        // HOUSE 0 to PHASE 1, 2 makes 2, 6, 4 and 2, 4, 6, a SWAP with HOUSE 2 makes 6, 2, 4; all are alike
        nextIs("a CHANGE of the first", alike, 6 * 12, 0, 0, 1);
    }

    private static void fixedAndTiedMayNotStep() {
        Run x = new Run();
        steady(x, 2, 0, 2, 0);
        nextIs("both may", x, 24, 0, 0, 1);
        x.sets(0, 2, 1);
        nextIs("the FIXED one may not", x, 24, 0, 1, 1);
        x.sets(1, 2, 1);
        Check.due("none may", x.next(0), NO);
        x.sets(0, 2, 0);
        x.sets(1, 2, 0);
        x.tie(1, 0);
        Check.due("none that is TIED may", x.next(0), NO);
        x.house(STEADY, 2, 0);
        nextIs("one that is not TIED may", x, 6 * 12, 0, 2, 1);
        x.change(1, 1);
        nextIs("nor SWAP, though they lie on two PHASES", x, 0, 0, 2, 2);
        x.sets(2, 2, 1);
        Check.due("TIED and FIXED", x.next(0), NO);
        Check.due("none to go down", x.down(), 0);
    }

    /**
     * HOURS 1 and 4 weigh nothing. STEADY ones of 3 and 3 on PHASE 0, a STOVE of 2 on PHASE 1, a STEADY one of 6 on
     * PHASE 2: a 3 on PHASE 1 would lessen GRIEF, and makes 9 with the STOVE.
     */
    private static void aStepHasToBeSafeThen() {
        Run x = new Run();
        steady(x, 3, 0, 3, 0);
        x.house(STOVE, 2, 1);
        steady(x, 6, 2);
        x.weight(1, 0);
        x.weight(4, 0);
        x.fuse(9);
        nextIs("SAFE by 9", x, 4 * 9, 0, 0, 1);
        Check.due("it is done", x.twin().step(), 36);
        x.fuse(8);
        nextIs("just a SWAP is SAFE by 8", x, 4 * 36, 1, 2, 3);
        Check.due("it lessens nothing", x.step(), NO);
        Check.due("none is done", x.down(), 0);
        x.fuse(5);
        Check.due("not SAFE now", x.good(0), 0);
        Check.due("none is SAFE then", x.next(0), NO);
        // out of what is not SAFE: 10 lies on PHASE 0, 5 and 5 would be SAFE
        Run out = new Run();
        steady(out, 5, 0, 5, 0);
        out.fuse(5);
        Check.due("not SAFE ahead of it", out.good(0), 0);
        Check.due("a STEP out of it", out.step(), 6 * 25);
        Check.due("SAFE behind it", out.good(0), 1);
    }

    private static void likeSteps() {
        Run x = new Run();
        steady(x, 1, 0, 1, 0, 1, 0);
        nextIs("the least HOUSE, then the least PHASE", x, 6 * 3, 0, 0, 1);
        // 2, 2, 0: each HOUSE can go to PHASE 2
        Run changes = new Run();
        steady(changes, 1, 1, 1, 1, 1, 0, 1, 0);
        nextIs("by HOUSE", changes, 6, 0, 0, 2);
        // 7, 3, 5 by 4 and 3, 2 and 1, 5: SWAPS of 0 and 2, of 1 and 3 make 5, 5, 5
        Run swaps = ChangesTest.fiveSteady();
        nextIs("the lesser HOUSE", swaps, 0, 1, 0, 2);
        // 8, 6, 7: SWAPS of HOUSE 0 or 1 with 2 or 3 make 7, 7, 7
        Run others = new Run();
        steady(others, 4, 0, 4, 0, 3, 1, 3, 1, 7, 2);
        nextIs("then the other one", others, 0, 1, 0, 2);
        Run like = new Run();
        steady(like, 2, 0, 2, 0, 2, 1);
        nextIs("CHANGES first", like, 0, 0, 0, 2);
    }

    /** From 1, 1, 0 there are STEPS that leave GRIEF as it is: they are not done. */
    private static void downEndsWhereGriefIsNotLess() {
        Run x = new Run();
        steady(x, 1, 0, 1, 0);
        Check.due("one STEP", x.down(), 1);
        nextIs("one as good as now", x, x.grief(), 0, 0, 2);
        Check.due("none", x.down(), 0);
        Check.due("not by step", x.step(), NO);
        Check.due("one D in all", x.told(6), 1);
        Run nine = new Run();
        for (int h = 0; h < 9; h++) {
            nine.house(STEADY, 1, 0);
        }
        Check.due("six STEPS", nine.down(), 6);
        Check.due("one D", nine.told(6), 1);
        Check.due("to 3, 3, 3", nine.grief(), 0);
        Check.due("undone at once", nine.undo(), 0);
        Check.due("to 9, 0, 0", nine.grief(), 6 * 81);
    }

    // ---- 2: DONE

    private static void eightCanBeUndone() {
        for (int made = 0; made <= 20; made++) {
            Run x = new Run();
            x.house(STEADY, 1, 0);
            for (int i = 1; i <= made; i++) {
                x.change(0, i % 3);
                Check.due("how many can be", x.told(6), Math.min(i, 8));
            }
            int can = Math.min(made, 8);
            for (int i = 1; i <= can; i++) {
                Check.due("how many can be yet", x.undo(), can - i);
                Check.due("PHASE ahead of it", x.of(0, 2), (made - i) % 3);
            }
            Check.due("older ones are lost", x.undo(), NO);
            Check.due("the PHASE stays", x.of(0, 2), (made - can) % 3);
            Check.due("none can be", x.told(6), 0);
        }
    }

    private static void eightOfAnyKindCanBeUndone() {
        Run.Call[] calls = {
            y -> y.lay(), y -> y.swap(0, 4), y -> y.change(3, 1), y -> y.step(), y -> y.swap(0, 1), y -> y.lay(),
            y -> y.change(1, 1), y -> y.change(1, 2), y -> y.change(0, 2), y -> y.down(), y -> y.swap(2, 3),
            y -> y.lay(), y -> y.change(2, 2)};
        Run x = ChangesTest.fiveSteady();
        int[][] ahead = new int[calls.length][5];
        for (int i = 0; i < calls.length; i++) {
            for (int h = 0; h < 5; h++) {
                ahead[i][h] = x.of(h, 2);
            }
            Check.holds("call " + i + " is done", x.call(calls[i]) >= 0);
            Check.due("how many can be, call " + i, x.told(6), Math.min(i + 1, 8));
        }
        for (int left = 7; left >= 0; left--) {
            Check.due("how many can be yet", x.undo(), left);
            ChangesTest.phasesAre("PHASES ahead", x, ahead[calls.length - 8 + left]);
        }
        Check.due("older ones are lost", x.undo(), NO);
        ChangesTest.phasesAre("nothing is undone", x, ahead[calls.length - 8]);
    }

    /** Of the room for eight, what is undone is free for others; what was lost does not come back. */
    private static void undoneOnesMakeRoom() {
        Run x = new Run();
        x.house(STEADY, 1, 0);
        for (int i = 1; i <= 10; i++) {
            x.change(0, i % 3);
        }
        for (int i = 0; i < 3; i++) {
            x.undo();
        }
        Check.due("behind three undone", x.of(0, 2), 7 % 3);
        x.change(0, 0);
        x.change(0, 2);
        Check.due("five and two", x.told(6), 7);
        int[] ahead = {0, 7 % 3, 6 % 3, 5 % 3, 4 % 3, 3 % 3, 2 % 3};
        for (int i = 0; i < 7; i++) {
            Check.due("yet", x.undo(), 6 - i);
            Check.due("PHASE ahead", x.of(0, 2), ahead[i]);
        }
        Check.due("no more", x.undo(), NO);
    }

    private static void eachCallToldDIsOne() {
        Run.Call[] calls = {
            y -> y.change(4, 0), y -> y.swap(0, 2), y -> y.step(), y -> y.down(), y -> y.lay(),
            y -> y.change(0, 0), y -> y.swap(0, 1)};
        for (int i = 0; i < calls.length; i++) {
            Run x = ChangesTest.fiveSteady();
            x.call(calls[i]);
            Check.due("D, call " + i, x.told(6), 1);
            Check.due("undone, call " + i, x.undo(), 0);
            ChangesTest.phasesAre("PHASES as ahead of call " + i, x, 0, 0, 1, 1, 2);
            Check.due("GRIEF as ahead of call " + i, x.grief(), 72);
            Check.due("no D any more, call " + i, x.undo(), NO);
        }
    }

    /** undo itself, down without a STEP, refused ones are none. */
    private static void onlyWhatIsToldDCanBeUndone() {
        Run x = ChangesTest.fiveSteady();
        x.lay();
        Check.due("down without a STEP", x.down(), 0);
        Check.due("step without one", x.step(), NO);
        Check.due("change that is BAD", x.change(0, 3), BAD);
        Check.due("swap that is BAD", x.swap(0, 0), BAD);
        Check.due("just lay", x.told(6), 1);
        x.undo();
        Check.due("undo is none", x.told(6), 0);
        x.lay();
        for (int i = 0; i < 8; i++) {
            x.change(0, (i + 2) % 3);
        }
        Check.due("eight, lay is lost", x.told(6), 8);
        Check.due("down without a STEP, behind eight", x.down(), 0);
        Check.due("step without one, behind eight", x.step(), NO);
        Check.due("swap that is BAD, behind eight", x.swap(4, 4), BAD);
        Check.due("change that is BAD, behind eight", x.change(5, 0), BAD);
        for (int i = 0; i < 8; i++) {
            Check.due("all eight are there yet", x.undo(), 7 - i);
        }
        ChangesTest.phasesAre("as laid", x, 0, 1, 1, 0, 2);
    }

    private static void askingLeavesWhatCanBeUndone() {
        Run.Call[] calls = {
            y -> y.of(0, 4), y -> y.takes(0, 1), y -> y.load(0, 0), y -> y.neutral(0), y -> y.grief(), y -> y.good(0),
            y -> y.good(1), y -> y.worst(0), y -> y.worst(1), y -> y.best(0), y -> y.best(1), y -> y.best(2),
            y -> y.phase(0), y -> y.by(9), y -> y.fewest(0), y -> y.many(), y -> y.next(0), y -> y.told(6),
            y -> y.digest()};
        Run x = ChangesTest.fiveSteady();
        x.change(0, 1);
        x.change(0, 2);
        for (int i = 0; i < calls.length; i++) {
            x.call(calls[i]);
            Check.due("two behind call " + i, x.told(6), 2);
        }
        Check.due("one yet", x.undo(), 1);
        Check.due("none yet", x.undo(), 0);
        ChangesTest.phasesAre("as at first", x, 0, 0, 1, 1, 2);
    }
}
