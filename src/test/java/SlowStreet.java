import java.util.ArrayDeque;
import java.util.ArrayList;
import java.util.Arrays;
import java.util.Deque;
import java.util.List;

/** The document told once more, as slowly and plainly as it reads: what PhaseLoads is compared with. */
final class SlowStreet {
    private static final int NONE = -1, BAD = -2, NO = -3, FULL = -4;

    private static final class House {
        int sort;
        int size;
        int phase;
        boolean fixed;
    }

    private final List<House> houses = new ArrayList<>();
    private final List<int[]> pairs = new ArrayList<>();
    private final Deque<int[]> undos = new ArrayDeque<>();
    private final int[] weights = {1, 1, 1, 1, 1, 1};
    private int fuse = 400;
    private final int[] often = new int[3];

    int house(int sort, int size, int phase) {
        if (sort < 0 || sort > 5 || size < 1 || size > 20 || phase < 0 || phase > 2) {
            return refuse(BAD);
        }
        if (houses.size() == 9) {
            return refuse(FULL);
        }
        undos.clear();
        return add(sort, size, phase);
    }

    private int add(int sort, int size, int phase) {
        House house = new House();
        house.sort = sort;
        house.size = size;
        house.phase = phase;
        houses.add(house);
        return houses.size() - 1;
    }

    int sets(int h, int what, int v) {
        int[][] range = {{0, 5}, {1, 20}, {0, 1}};
        if (!known(h) || what < 0 || what > 2 || v < range[what][0] || v > range[what][1]) {
            return refuse(BAD);
        }
        undos.clear();
        House house = houses.get(h);
        int was;
        if (what == 0) {
            was = house.sort;
            house.sort = v;
        } else if (what == 1) {
            was = house.size;
            house.size = v;
        } else {
            was = house.fixed ? 1 : 0;
            house.fixed = v == 1;
        }
        return was;
    }

    int weight(int t, int v) {
        if (t < 0 || t > 5 || v < 0 || v > 9) {
            return refuse(BAD);
        }
        undos.clear();
        int was = weights[t];
        weights[t] = v;
        return was;
    }

    int fuse(int v) {
        if (v < 1 || v > 400) {
            return refuse(BAD);
        }
        undos.clear();
        int was = fuse;
        fuse = v;
        return was;
    }

    int tie(int h, int o) {
        if (!known(h) || !known(o) || h == o) {
            return refuse(BAD);
        }
        if (tied(h, o)) {
            return refuse(NO);
        }
        if (pairs.size() == 6) {
            return refuse(FULL);
        }
        undos.clear();
        pairs.add(new int[] {h, o});
        return pairs.size();
    }

    int loosens() {
        undos.clear();
        int was = pairs.size();
        pairs.clear();
        return was;
    }

    int anew() {
        undos.clear();
        int was = houses.size();
        houses.clear();
        pairs.clear();
        Arrays.fill(weights, 1);
        fuse = 400;
        return was;
    }

    int draw(int seed, int n) {
        if (seed < 0 || seed > 999999 || n < 0 || n > 9) {
            return refuse(BAD);
        }
        undos.clear();
        houses.clear();
        pairs.clear();
        long x = seed;
        for (int i = 0; i < n; i++) {
            x = (x * 1103515245 + 12345) & 0x7fffffff;
            add((int) ((x >> 16) % 6), (int) ((x >> 10) % 20 + 1), (int) ((x >> 15) % 3));
        }
        return n;
    }

    int of(int h, int what) {
        if (!known(h) || what < 0 || what > 4) {
            return refuse(BAD);
        }
        House house = houses.get(h);
        if (what < 4) {
            return new int[] {house.sort, house.size, house.phase, house.fixed ? 1 : 0}[what];
        }
        int least = h;
        while (least > 0 && leastBelow(h, least) != NONE) {
            least = leastBelow(h, least);
        }
        return least;
    }

    private int leastBelow(int h, int below) {
        for (int o = 0; o < below; o++) {
            if (tied(h, o)) {
                return o;
            }
        }
        return NONE;
    }

    int takes(int h, int t) {
        return known(h) && t >= 0 && t < 6 ? taken(houses.get(h), t) : refuse(BAD);
    }

    int load(int phase, int t) {
        return phase >= 0 && phase < 3 && t >= 0 && t < 6 ? loads(now())[phase][t] : refuse(BAD);
    }

    int neutral(int t) {
        return t >= 0 && t < 6 ? neutral(loads(now()), t) : refuse(BAD);
    }

    int grief() {
        return grief(now());
    }

    int good(int what) {
        if (what < 0 || what > 1) {
            return refuse(BAD);
        }
        return (what == 0 ? safe(now()) : keeps(now())) ? 1 : 0;
    }

    int worst(int what) {
        if (what < 0 || what > 1) {
            return refuse(BAD);
        }
        int[][] loads = loads(now());
        int hour = 0;
        int load = loads[0][0];
        for (int t = 0; t < 6; t++) {
            hour = neutral(loads, t) > neutral(loads, hour) ? t : hour;
            for (int p = 0; p < 3; p++) {
                load = Math.abs(loads[p][t]) > Math.abs(load) ? loads[p][t] : load;
            }
        }
        return what == 0 ? hour : load;
    }

    int change(int h, int phase) {
        if (!known(h) || phase < 0 || phase > 2) {
            return refuse(BAD);
        }
        if (houses.get(h).fixed) {
            return refuse(NO);
        }
        keep(now());
        int was = houses.get(h).phase;
        houses.get(h).phase = phase;
        return was;
    }

    int swap(int h, int o) {
        if (!known(h) || !known(o) || h == o) {
            return refuse(BAD);
        }
        if (houses.get(h).fixed || houses.get(o).fixed) {
            return refuse(NO);
        }
        keep(now());
        int[] then = now();
        then[h] = houses.get(o).phase;
        then[o] = houses.get(h).phase;
        put(then);
        return grief();
    }

    int step() {
        int[] best = bestStep();
        if (best == null || best[0] >= grief()) {
            return refuse(NO);
        }
        keep(now());
        put(behind(best));
        return grief();
    }

    int down() {
        int[] first = now();
        int steps = 0;
        int[] best = bestStep();
        while (best != null && best[0] < grief()) {
            put(behind(best));
            steps++;
            best = bestStep();
        }
        if (steps > 0) {
            keep(first);
        }
        return steps;
    }

    int lay() {
        int[] best = best();
        if (best == null) {
            return refuse(NO);
        }
        int changed = changes(best);
        keep(now());
        put(best);
        return changed;
    }

    int undo() {
        if (undos.isEmpty()) {
            return refuse(NO);
        }
        put(undos.pop());
        return undos.size();
    }

    int best(int what) {
        if (what < 0 || what > 2) {
            return refuse(BAD);
        }
        int[] best = best();
        if (best == null) {
            return refuse(NO);
        }
        if (what == 0) {
            return grief(best);
        }
        if (what == 1) {
            return changes(best);
        }
        int alike = 0;
        for (int[] laying : layings()) {
            alike += grief(laying) == grief(best) ? 1 : 0;
        }
        return alike;
    }

    int phase(int h) {
        if (!known(h)) {
            return refuse(BAD);
        }
        int[] best = best();
        return best == null ? refuse(NO) : best[h];
    }

    int by(int n) {
        if (n < 0 || n > 9) {
            return refuse(BAD);
        }
        int least = NONE;
        for (int[] laying : layings()) {
            if (changes(laying) <= n && (least == NONE || grief(laying) < least)) {
                least = grief(laying);
            }
        }
        return least == NONE ? refuse(NO) : least;
    }

    int fewest(int g) {
        if (g < 0) {
            return refuse(BAD);
        }
        int fewest = NONE;
        for (int[] laying : layings()) {
            if (grief(laying) <= g && (fewest == NONE || changes(laying) < fewest)) {
                fewest = changes(laying);
            }
        }
        return fewest;
    }

    int many() {
        return layings().size();
    }

    int next(int what) {
        if (what < 0 || what > 3) {
            return refuse(BAD);
        }
        int[] best = bestStep();
        return best == null ? refuse(NO) : best[what];
    }

    int told(int what) {
        return what < 0 || what > 7 ? refuse(BAD) : toldOf(what);
    }

    private int toldOf(int what) {
        int bits = 0;
        for (int h = 0; h < houses.size(); h++) {
            bits += houses.get(h).fixed ? 1 << h : 0;
        }
        return new int[] {often[0], often[1], often[2], houses.size(), pairs.size(), fuse, undos.size(), bits}[what];
    }

    long digest() {
        List<Integer> all = new ArrayList<>();
        for (int what = 0; what < 8; what++) {
            all.add(toldOf(what));
        }
        for (House house : houses) {
            all.addAll(List.of(house.sort, house.size, house.phase));
        }
        for (int weight : weights) {
            all.add(weight);
        }
        for (int[] pair : pairs) {
            all.addAll(List.of(pair[0], pair[1]));
        }
        all.add(grief());
        long h = 2011;
        for (int v : all) {
            h = 31 * h + v;
        }
        return h;
    }

    private int refuse(int why) {
        often[BAD - why]++;
        return why;
    }

    private boolean known(int h) {
        return h >= 0 && h < houses.size();
    }

    private void keep(int[] phases) {
        undos.push(phases);
        if (undos.size() > 8) {
            undos.removeLast();
        }
    }

    private int[] now() {
        return houses.stream().mapToInt(house -> house.phase).toArray();
    }

    private void put(int[] phases) {
        for (int h = 0; h < phases.length; h++) {
            houses.get(h).phase = phases[h];
        }
    }

    /** Whether a chain of pairs leads from one HOUSE to another. */
    private boolean tied(int h, int o) {
        boolean[] reached = new boolean[9];
        reached[h] = true;
        for (int round = 0; round < 9; round++) {
            for (int[] pair : pairs) {
                if (reached[pair[0]] || reached[pair[1]]) {
                    reached[pair[0]] = true;
                    reached[pair[1]] = true;
                }
            }
        }
        return h != o && reached[o];
    }

    private static int taken(House house, int t) {
        int steady = house.size;
        boolean noon = t == 2 || t == 3;
        switch (house.sort) {
            case 0: return steady;
            case 1: return noon ? 2 * steady : steady;
            case 2: return night(steady, t);
            case 3: return t == 0 || t == 5 ? 0 : noon ? 2 * steady : steady;
            case 4: return t == 1 || t == 4 ? 3 * steady : 0;
            default: return 0 - night(steady, (t + 2) % 6);
        }
    }

    private static int night(int steady, int t) {
        return t == 2 || t == 3 ? 0 : steady;
    }

    private int[][] loads(int[] phases) {
        int[][] loads = new int[3][6];
        for (int h = 0; h < phases.length; h++) {
            for (int t = 0; t < 6; t++) {
                loads[phases[h]][t] += taken(houses.get(h), t);
            }
        }
        return loads;
    }

    private static int neutral(int[][] loads, int t) {
        int a = loads[0][t];
        int b = loads[1][t];
        int c = loads[2][t];
        return a * a + b * b + c * c - a * b - b * c - c * a;
    }

    private int grief(int[] phases) {
        int[][] loads = loads(phases);
        int grief = 0;
        for (int t = 0; t < 6; t++) {
            grief += weights[t] * neutral(loads, t);
        }
        return grief;
    }

    private boolean safe(int[] phases) {
        for (int[] row : loads(phases)) {
            for (int load : row) {
                if (load > fuse || load < -fuse) {
                    return false;
                }
            }
        }
        return true;
    }

    private boolean keeps(int[] phases) {
        for (int[] pair : pairs) {
            if (phases[pair[0]] != phases[pair[1]]) {
                return false;
            }
        }
        return true;
    }

    private int changes(int[] laying) {
        int changes = 0;
        for (int h = 0; h < laying.length; h++) {
            changes += laying[h] == houses.get(h).phase ? 0 : 1;
        }
        return changes;
    }

    /** All layings that are looked for, the first first. */
    private List<int[]> layings() {
        List<int[]> found = new ArrayList<>();
        int n = houses.size();
        int all = (int) Math.round(Math.pow(3, n));
        for (int number = 0; number < all; number++) {
            int[] laying = new int[n];
            int rest = number;
            for (int h = n - 1; h >= 0; h--) {
                laying[h] = rest % 3;
                rest /= 3;
            }
            if (leavesFixed(laying) && keeps(laying) && safe(laying)) {
                found.add(laying);
            }
        }
        return found;
    }

    private boolean leavesFixed(int[] laying) {
        for (int h = 0; h < laying.length; h++) {
            if (houses.get(h).fixed && laying[h] != houses.get(h).phase) {
                return false;
            }
        }
        return true;
    }

    private int[] best() {
        int[] best = null;
        for (int[] laying : layings()) {
            if (best == null || grief(laying) < grief(best)
                    || grief(laying) == grief(best) && changes(laying) < changes(best)) {
                best = laying;
            }
        }
        return best;
    }

    /** GRIEF, kind, HOUSE, PHASE or the other HOUSE of the BEST STEP; null, if none MAY be. */
    private int[] bestStep() {
        int n = houses.size();
        List<int[]> steps = new ArrayList<>();
        for (int h = 0; h < n; h++) {
            for (int p = 0; p < 3; p++) {
                if (p != houses.get(h).phase && free(h)) {
                    steps.add(new int[] {0, 0, h, p});
                }
            }
        }
        for (int h = 0; h < n; h++) {
            for (int o = h + 1; o < n; o++) {
                if (houses.get(h).phase != houses.get(o).phase && free(h) && free(o)) {
                    steps.add(new int[] {0, 1, h, o});
                }
            }
        }
        int[] best = null;
        for (int[] step : steps) {
            step[0] = grief(behind(step));
            if (safe(behind(step)) && (best == null || step[0] < best[0])) {
                best = step;
            }
        }
        return best;
    }

    private boolean free(int h) {
        for (int o = 0; o < houses.size(); o++) {
            if (tied(h, o)) {
                return false;
            }
        }
        return !houses.get(h).fixed;
    }

    private int[] behind(int[] step) {
        int[] then = now();
        if (step[1] == 0) {
            then[step[2]] = step[3];
        } else {
            int phase = then[step[2]];
            then[step[2]] = then[step[3]];
            then[step[3]] = phase;
        }
        return then;
    }
}
