import java.util.Arrays;

/** Houses of one phase each, laid on three conductors; ../shared/DOC.md says what each call promises. */
public final class PhaseLoads {
    public static final int NONE = -1, BAD = -2, NO = -3, FULL = -4;

    private static final int MOST_HOUSES = 9;
    private static final int HOURS = 6;
    private static final int PHASES = 3;
    private static final int SORTS = 6;
    private static final int MOST_SIZE = 20;
    private static final int MOST_WEIGHT = 9;
    private static final int MOST_FUSE = 400;
    private static final int MOST_PAIRS = 6;
    private static final int MOST_UNDOS = 8;
    private static final int MOST_SEED = 999999;
    private static final int MOST_LAYINGS = 19683;

    private static final int SORT = 0, SIZE = 1, FIXED = 2;
    private static final int CHANGE = 0, SWAP = 1;

    /** How many times its SIZE a HOUSE takes: a row for each SORT, a column for each HOUR. */
    private static final int[] TIMES = {
        1, 1, 1, 1, 1, 1,
        1, 1, 2, 2, 1, 1,
        1, 1, 0, 0, 1, 1,
        0, 1, 2, 2, 1, 0,
        0, 3, 0, 0, 3, 0,
        0, 0, -1, -1, -1, -1
    };

    private final Street street;
    private final Layings layings;
    private final Steps steps;
    private final Undos undos;
    private int bads;
    private int noes;
    private int fulls;

    public PhaseLoads() {
        street = new Street();
        layings = new Layings(street);
        steps = new Steps(street);
        undos = new Undos();
    }

    // ---- the street

    public int house(int sort, int size, int phase) {
        if (!isSort(sort) || !isSize(size) || !isPhase(phase)) {
            return refuse(BAD);
        }
        if (street.houses >= MOST_HOUSES) {
            return refuse(FULL);
        }
        streetChanges();
        return street.addHouse(sort, size, phase);
    }

    public int sets(int h, int what, int v) {
        if (!isHouse(h) || !isSetting(what, v)) {
            return refuse(BAD);
        }
        streetChanges();
        return street.setHouse(h, what, v);
    }

    public int weight(int t, int v) {
        if (!isHour(t) || !isIn(v, 0, MOST_WEIGHT)) {
            return refuse(BAD);
        }
        streetChanges();
        int was = street.weights[t];
        street.weights[t] = v;
        return was;
    }

    public int fuse(int v) {
        if (!isIn(v, 1, MOST_FUSE)) {
            return refuse(BAD);
        }
        streetChanges();
        int was = street.fuse;
        street.fuse = v;
        return was;
    }

    public int tie(int h, int o) {
        if (!areTwoHouses(h, o)) {
            return refuse(BAD);
        }
        if (street.leastTied[h] == street.leastTied[o]) {
            return refuse(NO);
        }
        if (street.pairs >= MOST_PAIRS) {
            return refuse(FULL);
        }
        streetChanges();
        street.addPair(h, o);
        return street.pairs;
    }

    public int loosens() {
        streetChanges();
        int was = street.pairs;
        street.dropPairs();
        return was;
    }

    public int anew() {
        streetChanges();
        int was = street.houses;
        street.dropHouses();
        street.resetLimits();
        return was;
    }

    public int draw(int seed, int n) {
        if (!isIn(seed, 0, MOST_SEED) || !isIn(n, 0, MOST_HOUSES)) {
            return refuse(BAD);
        }
        streetChanges();
        street.dropHouses();
        long x = seed;
        for (int i = 0; i < n; i++) {
            x = (x * 1103515245L + 12345L) % 2147483648L;
            street.addHouse((int) (x / 65536 % SORTS), (int) (x / 1024 % MOST_SIZE) + 1, (int) (x / 32768 % PHASES));
        }
        return n;
    }

    public int of(int h, int what) {
        if (!isHouse(h)) {
            return refuse(BAD);
        }
        switch (what) {
            case 0: return street.sorts[h];
            case 1: return street.sizes[h];
            case 2: return street.phases[h];
            case 3: return street.fixed[h];
            case 4: return street.leastTied[h];
            default: return refuse(BAD);
        }
    }

    public int takes(int h, int t) {
        if (!isHouse(h) || !isHour(t)) {
            return refuse(BAD);
        }
        return street.takenBy(h, t);
    }

    // ---- how it is

    public int load(int phase, int t) {
        if (!isPhase(phase) || !isHour(t)) {
            return refuse(BAD);
        }
        return street.loadOf(phase, t);
    }

    public int neutral(int t) {
        if (!isHour(t)) {
            return refuse(BAD);
        }
        return street.neutralOf(t);
    }

    public int grief() {
        return street.griefNow();
    }

    public int good(int what) {
        switch (what) {
            case 0: return street.isSafe() ? 1 : 0;
            case 1: return street.keepsTies() ? 1 : 0;
            default: return refuse(BAD);
        }
    }

    public int worst(int what) {
        switch (what) {
            case 0: return street.hourOfGreatestNeutral();
            case 1: return street.greatestLoad();
            default: return refuse(BAD);
        }
    }

    // ---- changes

    public int change(int h, int phase) {
        if (!isHouse(h) || !isPhase(phase)) {
            return refuse(BAD);
        }
        if (street.fixed[h] == 1) {
            return refuse(NO);
        }
        phasesChange();
        int was = street.phases[h];
        street.setPhase(h, phase);
        return was;
    }

    public int swap(int h, int o) {
        if (!areTwoHouses(h, o)) {
            return refuse(BAD);
        }
        if (street.fixed[h] == 1 || street.fixed[o] == 1) {
            return refuse(NO);
        }
        phasesChange();
        street.swapPhases(h, o);
        return street.griefNow();
    }

    public int step() {
        steps.find();
        if (!steps.lessens()) {
            return refuse(NO);
        }
        phasesChange();
        steps.take();
        return street.griefNow();
    }

    public int down() {
        int taken = 0;
        steps.find();
        // GRIEF falls by each STEP, so no laying comes twice: there are never more STEPS than layings.
        while (taken < MOST_LAYINGS && steps.lessens()) {
            if (taken == 0) {
                phasesChange();
            }
            steps.take();
            taken++;
            steps.find();
        }
        return taken;
    }

    public int lay() {
        int changes = layings.changesOfBest(MOST_HOUSES);
        if (changes == NONE) {
            return refuse(NO);
        }
        int laying = layings.first[changes];
        phasesChange();
        street.layPacked(laying);
        return changes;
    }

    public int undo() {
        if (undos.count == 0) {
            return refuse(NO);
        }
        street.layPacked(undos.takeLast());
        layings.forget();
        return undos.count;
    }

    // ---- what would be best

    public int best(int what) {
        if (!isIn(what, 0, 2)) {
            return refuse(BAD);
        }
        int changes = layings.changesOfBest(MOST_HOUSES);
        if (changes == NONE) {
            return refuse(NO);
        }
        switch (what) {
            case 0: return layings.least[changes];
            case 1: return changes;
            default: return layings.alike;
        }
    }

    public int phase(int h) {
        if (!isHouse(h)) {
            return refuse(BAD);
        }
        int changes = layings.changesOfBest(MOST_HOUSES);
        if (changes == NONE) {
            return refuse(NO);
        }
        return phaseIn(layings.first[changes], h);
    }

    public int by(int n) {
        if (!isIn(n, 0, MOST_HOUSES)) {
            return refuse(BAD);
        }
        int changes = layings.changesOfBest(n);
        if (changes == NONE) {
            return refuse(NO);
        }
        return layings.least[changes];
    }

    public int fewest(int g) {
        if (g < 0) {
            return refuse(BAD);
        }
        return layings.fewestChangesFor(g);
    }

    public int many() {
        return layings.countAll();
    }

    public int next(int what) {
        if (!isIn(what, 0, 3)) {
            return refuse(BAD);
        }
        steps.find();
        if (!steps.found) {
            return refuse(NO);
        }
        switch (what) {
            case 0: return steps.grief;
            case 1: return steps.kind;
            case 2: return steps.house;
            default: return steps.other;
        }
    }

    public int told(int what) {
        return isIn(what, 0, 7) ? toldOf(what) : refuse(BAD);
    }

    public long digest() {
        long h = 2011;
        for (int what = 0; what <= 7; what++) {
            h = 31 * h + toldOf(what);
        }
        for (int i = 0; i < street.houses; i++) {
            h = 31 * h + street.sorts[i];
            h = 31 * h + street.sizes[i];
            h = 31 * h + street.phases[i];
        }
        for (int t = 0; t < HOURS; t++) {
            h = 31 * h + street.weights[t];
        }
        for (int i = 0; i < street.pairs; i++) {
            h = 31 * h + street.pairHouse[i];
            h = 31 * h + street.pairOther[i];
        }
        return 31 * h + street.griefNow();
    }

    private int toldOf(int what) {
        switch (what) {
            case 0: return bads;
            case 1: return noes;
            case 2: return fulls;
            case 3: return street.houses;
            case 4: return street.pairs;
            case 5: return street.fuse;
            case 6: return undos.count;
            default: return street.fixedBits();
        }
    }

    private int refuse(int why) {
        if (why == BAD) {
            bads++;
        } else if (why == NO) {
            noes++;
        } else {
            fulls++;
        }
        return why;
    }

    /** Ahead of all that is told of the street: older PHASES may not fit it any more. */
    private void streetChanges() {
        undos.count = 0;
        layings.forget();
    }

    /** Ahead of each D. */
    private void phasesChange() {
        undos.keep(street.packedPhases());
        layings.forget();
    }

    private boolean isHouse(int h) {
        return isIn(h, 0, street.houses - 1);
    }

    private boolean areTwoHouses(int h, int o) {
        return isHouse(h) && isHouse(o) && h != o;
    }

    private static boolean isSetting(int what, int v) {
        switch (what) {
            case SORT: return isSort(v);
            case SIZE: return isSize(v);
            case FIXED: return isIn(v, 0, 1);
            default: return false;
        }
    }

    private static boolean isSort(int v) {
        return isIn(v, 0, SORTS - 1);
    }

    private static boolean isSize(int v) {
        return isIn(v, 1, MOST_SIZE);
    }

    private static boolean isPhase(int v) {
        return isIn(v, 0, PHASES - 1);
    }

    private static boolean isHour(int v) {
        return isIn(v, 0, HOURS - 1);
    }

    private static boolean isIn(int v, int least, int most) {
        return v >= least && v <= most;
    }

    /** A laying is packed into one number, two bits a HOUSE, so that keeping it makes no object. */
    private static int phaseIn(int laying, int h) {
        return (laying >>> (2 * h)) & 3;
    }

    private static int pack(int[] phases, int houses) {
        int laying = 0;
        for (int h = 0; h < houses; h++) {
            laying |= phases[h] << (2 * h);
        }
        return laying;
    }

    /** The HOUSES as they are now, with the LOADS kept up at every change. */
    private static final class Street {
        final int[] sorts = new int[MOST_HOUSES];
        final int[] sizes = new int[MOST_HOUSES];
        final int[] phases = new int[MOST_HOUSES];
        final int[] fixed = new int[MOST_HOUSES];
        final int[] leastTied = new int[MOST_HOUSES];
        final int[] pairHouse = new int[MOST_PAIRS];
        final int[] pairOther = new int[MOST_PAIRS];
        final int[] weights = new int[HOURS];
        private final int[] loads = new int[PHASES * HOURS];
        int houses;
        int pairs;
        int fuse;

        Street() {
            resetLimits();
        }

        void resetLimits() {
            Arrays.fill(weights, 1);
            fuse = MOST_FUSE;
        }

        int addHouse(int sort, int size, int phase) {
            int h = houses;
            houses++;
            sorts[h] = sort;
            sizes[h] = size;
            phases[h] = phase;
            fixed[h] = 0;
            leastTied[h] = h;
            addLoads(h, 1);
            return h;
        }

        void dropHouses() {
            dropPairs();
            houses = 0;
            Arrays.fill(loads, 0);
        }

        int setHouse(int h, int what, int v) {
            int[] row = what == SORT ? sorts : what == SIZE ? sizes : fixed;
            int was = row[h];
            addLoads(h, -1);
            row[h] = v;
            addLoads(h, 1);
            return was;
        }

        void setPhase(int h, int phase) {
            addLoads(h, -1);
            phases[h] = phase;
            addLoads(h, 1);
        }

        void swapPhases(int h, int o) {
            int phase = phases[h];
            setPhase(h, phases[o]);
            setPhase(o, phase);
        }

        private void addLoads(int h, int times) {
            for (int t = 0; t < HOURS; t++) {
                loads[phases[h] * HOURS + t] += times * takenBy(h, t);
            }
        }

        void addPair(int h, int o) {
            pairHouse[pairs] = h;
            pairOther[pairs] = o;
            pairs++;
            int least = Math.min(leastTied[h], leastTied[o]);
            int most = Math.max(leastTied[h], leastTied[o]);
            for (int i = 0; i < houses; i++) {
                if (leastTied[i] == most) {
                    leastTied[i] = least;
                }
            }
        }

        void dropPairs() {
            pairs = 0;
            for (int i = 0; i < houses; i++) {
                leastTied[i] = i;
            }
        }

        boolean isTied(int h) {
            for (int i = 0; i < houses; i++) {
                if (i != h && leastTied[i] == leastTied[h]) {
                    return true;
                }
            }
            return false;
        }

        int fixedBits() {
            int bits = 0;
            for (int h = 0; h < houses; h++) {
                bits |= fixed[h] << h;
            }
            return bits;
        }

        int packedPhases() {
            return pack(phases, houses);
        }

        void layPacked(int laying) {
            for (int h = 0; h < houses; h++) {
                setPhase(h, phaseIn(laying, h));
            }
        }

        int takenBy(int h, int t) {
            return sizes[h] * TIMES[sorts[h] * HOURS + t];
        }

        int loadOf(int phase, int t) {
            return loads[phase * HOURS + t];
        }

        int neutralOf(int t) {
            int a = loadOf(0, t);
            int b = loadOf(1, t);
            int c = loadOf(2, t);
            return a * a + b * b + c * c - a * b - b * c - c * a;
        }

        int griefNow() {
            int grief = 0;
            for (int t = 0; t < HOURS; t++) {
                grief += weights[t] * neutralOf(t);
            }
            return grief;
        }

        boolean isSafe() {
            for (int i = 0; i < loads.length; i++) {
                if (Math.abs(loads[i]) > fuse) {
                    return false;
                }
            }
            return true;
        }

        boolean keepsTies() {
            for (int h = 0; h < houses; h++) {
                if (phases[h] != phases[leastTied[h]]) {
                    return false;
                }
            }
            return true;
        }

        int hourOfGreatestNeutral() {
            int worst = 0;
            for (int t = 1; t < HOURS; t++) {
                if (neutralOf(t) > neutralOf(worst)) {
                    worst = t;
                }
            }
            return worst;
        }

        int greatestLoad() {
            int greatest = 0;
            for (int t = 0; t < HOURS; t++) {
                for (int p = 0; p < PHASES; p++) {
                    if (Math.abs(loadOf(p, t)) > Math.abs(greatest)) {
                        greatest = loadOf(p, t);
                    }
                }
            }
            return greatest;
        }
    }

    /**
     * All layings that are looked for, gone through once for each state of the street and kept by how many HOUSES
     * change: every question about BEST is answered from these few numbers.
     */
    private static final class Layings {
        /** By how many HOUSES change: the least GRIEF, NONE without such a laying. */
        final int[] least = new int[MOST_HOUSES + 1];
        /** By how many HOUSES change: the first laying of that GRIEF, packed. */
        final int[] first = new int[MOST_HOUSES + 1];
        int alike;
        private final Street street;
        private final int[] laid = new int[MOST_HOUSES];
        private final int[] takings = new int[MOST_HOUSES * HOURS];
        private final int[] products = new int[MOST_HOUSES * MOST_HOUSES];
        private final int[] met = new int[MOST_HOUSES * PHASES];
        /** LOADS of the HOUSES placed so far, in the tight HOURS alone; all 0 when none is placed. */
        private final int[] loads = new int[PHASES * HOURS];
        private final int[] tightHours = new int[HOURS];
        private int tight;
        private int total;
        private int leastOfAll;
        private boolean found;

        Layings(Street street) {
            this.street = street;
        }

        void forget() {
            found = false;
        }

        /** How many HOUSES change in BEST by n changes; NONE without such a laying. */
        int changesOfBest(int n) {
            findAll();
            int best = NONE;
            for (int k = 0; k <= n && k <= MOST_HOUSES; k++) {
                if (least[k] != NONE && (best == NONE || least[k] < least[best])) {
                    best = k;
                }
            }
            return best;
        }

        int fewestChangesFor(int grief) {
            findAll();
            for (int k = 0; k <= MOST_HOUSES; k++) {
                if (least[k] != NONE && least[k] <= grief) {
                    return k;
                }
            }
            return NONE;
        }

        int countAll() {
            findAll();
            return total;
        }

        private void findAll() {
            if (found) {
                return;
            }
            found = true;
            Arrays.fill(least, NONE);
            total = 0;
            alike = 0;
            leastOfAll = NONE;
            readTakings();
            findTightHours();
            multiplyTakings();
            place(0, griefApart(), 0);
        }

        private void readTakings() {
            for (int h = 0; h < street.houses; h++) {
                for (int t = 0; t < HOURS; t++) {
                    takings[h * HOURS + t] = street.takenBy(h, t);
                }
            }
        }

        /** Only an HOUR in which all HOUSES together could blow the FUSE needs its LOADS looked at. */
        private void findTightHours() {
            tight = 0;
            for (int t = 0; t < HOURS; t++) {
                int taken = 0;
                int given = 0;
                for (int h = 0; h < street.houses; h++) {
                    taken += Math.max(takings[h * HOURS + t], 0);
                    given += Math.max(-takings[h * HOURS + t], 0);
                }
                if (Math.max(taken, given) > street.fuse) {
                    tightHours[tight] = t;
                    tight++;
                }
            }
        }

        private void multiplyTakings() {
            for (int h = 0; h < street.houses; h++) {
                for (int o = 0; o <= h; o++) {
                    products[h * MOST_HOUSES + o] = product(h, o);
                }
            }
        }

        private int product(int h, int o) {
            int sum = 0;
            for (int t = 0; t < HOURS; t++) {
                sum += street.weights[t] * takings[h * HOURS + t] * takings[o * HOURS + t];
            }
            return sum;
        }

        /**
         * With a, b, c written out by HOUSES, GRIEF has each HOUSE's product with itself once, each pair's product
         * twice on one PHASE (from aa, bb, cc) and less once on two (from ab, bc, ca): so it is what it would be with
         * every pair on two PHASES, and three times the product of each pair that shares one.
         */
        private int griefApart() {
            int grief = 0;
            for (int h = 0; h < street.houses; h++) {
                grief += products[h * MOST_HOUSES + h];
                for (int o = 0; o < h; o++) {
                    grief -= products[h * MOST_HOUSES + o];
                }
            }
            return grief;
        }

        /** HOUSE by HOUSE, the least PHASE first: so the first of like layings is met first. */
        private void place(int h, int grief, int changes) {
            if (h >= street.houses) {
                count(grief, changes);
                return;
            }
            meetEarlier(h);
            for (int p = 0; p < PHASES; p++) {
                if (mayLie(h, p)) {
                    laid[h] = p;
                    addLoads(h, p, 1);
                    place(h + 1, grief + 3 * met[h * PHASES + p], changes + (p == street.phases[h] ? 0 : 1));
                    addLoads(h, p, -1);
                }
            }
        }

        private void meetEarlier(int h) {
            int row = h * PHASES;
            for (int p = 0; p < PHASES; p++) {
                met[row + p] = 0;
            }
            for (int o = 0; o < h; o++) {
                met[row + laid[o]] += products[h * MOST_HOUSES + o];
            }
        }

        private boolean mayLie(int h, int phase) {
            if (street.fixed[h] == 1 && phase != street.phases[h]) {
                return false;
            }
            int tiedTo = street.leastTied[h];
            return tiedTo == h || phase == laid[tiedTo];
        }

        private void addLoads(int h, int phase, int times) {
            for (int i = 0; i < tight; i++) {
                int t = tightHours[i];
                loads[phase * HOURS + t] += times * takings[h * HOURS + t];
            }
        }

        private boolean isLaidSafe() {
            for (int i = 0; i < tight; i++) {
                for (int p = 0; p < PHASES; p++) {
                    if (Math.abs(loads[p * HOURS + tightHours[i]]) > street.fuse) {
                        return false;
                    }
                }
            }
            return true;
        }

        private void count(int grief, int changes) {
            if (!isLaidSafe()) {
                return;
            }
            total++;
            if (leastOfAll == NONE || grief < leastOfAll) {
                leastOfAll = grief;
                alike = 0;
            }
            if (grief == leastOfAll) {
                alike++;
            }
            if (least[changes] == NONE || grief < least[changes]) {
                least[changes] = grief;
                first[changes] = pack(laid, street.houses);
            }
        }
    }

    /** The BEST STEP, sought by trying each one on the street and taking it back. */
    private static final class Steps {
        boolean found;
        int grief;
        int kind;
        int house;
        int other;
        private final Street street;

        Steps(Street street) {
            this.street = street;
        }

        void find() {
            found = false;
            for (int h = 0; h < street.houses; h++) {
                if (isFree(h)) {
                    tryChanges(h);
                }
            }
            for (int h = 0; h < street.houses; h++) {
                if (isFree(h)) {
                    trySwaps(h);
                }
            }
        }

        boolean lessens() {
            return found && grief < street.griefNow();
        }

        void take() {
            if (kind == CHANGE) {
                street.setPhase(house, other);
            } else {
                street.swapPhases(house, other);
            }
        }

        private boolean isFree(int h) {
            return street.fixed[h] == 0 && !street.isTied(h);
        }

        private void tryChanges(int h) {
            int now = street.phases[h];
            for (int p = 0; p < PHASES; p++) {
                if (p != now) {
                    street.setPhase(h, p);
                    compare(CHANGE, h, p);
                }
            }
            street.setPhase(h, now);
        }

        private void trySwaps(int h) {
            for (int o = h + 1; o < street.houses; o++) {
                if (isFree(o) && street.phases[o] != street.phases[h]) {
                    street.swapPhases(h, o);
                    compare(SWAP, h, o);
                    street.swapPhases(h, o);
                }
            }
        }

        /** Only what is less takes the place of what was found: of like STEPS the first one stays. */
        private void compare(int triedKind, int triedHouse, int triedOther) {
            if (!street.isSafe()) {
                return;
            }
            int then = street.griefNow();
            if (!found || then < grief) {
                found = true;
                grief = then;
                kind = triedKind;
                house = triedHouse;
                other = triedOther;
            }
        }
    }

    /** The PHASES ahead of the last calls told D, the latest one last. */
    private static final class Undos {
        int count;
        private final int[] layingsAhead = new int[MOST_UNDOS];

        void keep(int laying) {
            if (count >= MOST_UNDOS) {
                System.arraycopy(layingsAhead, 1, layingsAhead, 0, MOST_UNDOS - 1);
                count = MOST_UNDOS - 1;
            }
            layingsAhead[count] = laying;
            count++;
        }

        int takeLast() {
            count--;
            return layingsAhead[count];
        }
    }
}
