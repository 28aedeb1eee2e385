import java.util.Random;

/**
 * Runs of 512 calls, drawn from fixed seeds, on PhaseLoads and on SlowStreet: every answer has to be the same. Every
 * second call is digest.
 */
public final class ModelTest {
    private static final int RUNS = 800;
    private static final int CALLS = 256;
    private static final String[] NAMES = {"house", "sets", "weight", "fuse", "tie", "loosens", "anew", "draw", "of",
        "takes", "load", "neutral", "grief", "good", "worst", "change", "swap", "step", "down", "lay", "undo", "best",
        "phase", "by", "fewest", "many", "next", "told", "digest"};
    /** How often each call is drawn, by the order of NAMES. */
    private static final int[] OFTEN = {6, 8, 4, 4, 5, 1, 1, 2, 3,
        2, 3, 2, 3, 3, 3, 12, 8, 6, 3, 3, 12, 6,
        4, 6, 4, 3, 6, 3, 3};

    private final Random random;
    private final PhaseLoads x = new PhaseLoads();
    private final SlowStreet slow = new SlowStreet();
    private final int run;
    private final int mostHouses;

    private ModelTest(int run) {
        this.run = run;
        this.random = new Random(run);
        this.mostHouses = run % 50 == 0 ? 9 : 3 + run % 4;
    }

    public static void main(String[] args) {
        for (int run = 0; run < RUNS; run++) {
            new ModelTest(run).compare();
        }
        Check.end();
    }

    private void compare() {
        for (int i = 0; i < CALLS; i++) {
            int call = drawCall();
            int a = argument(call, 0);
            int b = argument(call, 1);
            int c = argument(call, 2);
            // in every third run the street mostly stays, so that many calls told D follow one another
            if (run % 3 == 0 && i > 20 && call < 8 && random.nextInt(30) > 0) {
                continue;
            }
            // slow ones are kept to fewer HOUSES, most of the time
            if (call == 0 && slow.told(3) >= mostHouses && random.nextInt(20) > 0) {
                continue;
            }
            if (call == 7) {
                b = random.nextInt(20) == 0 ? b : Math.min(b, mostHouses);
            }
            Check.due("run " + run + " call " + i + ": " + NAMES[call] + "(" + a + ", " + b + ", " + c + ")",
                onFast(call, a, b, c), onSlow(call, a, b, c));
            Check.due("run " + run + " call " + i + ": digest behind it", x.digest(), slow.digest());
        }
    }

    private int drawCall() {
        int sum = 0;
        for (int often : OFTEN) {
            sum += often;
        }
        int left = random.nextInt(sum);
        int call = 0;
        while (left >= OFTEN[call]) {
            left -= OFTEN[call];
            call++;
        }
        return call;
    }

    /** Mostly as the document tells it, sometimes just outside, seldom far outside. */
    private int argument(int call, int which) {
        int luck = random.nextInt(200);
        if (luck == 0) {
            return random.nextInt();
        }
        if (luck == 1) {
            return random.nextBoolean() ? Integer.MIN_VALUE : Integer.MAX_VALUE;
        }
        int[] range = range(call, which);
        int outside = luck < 8 ? 1 : 0;
        return range[0] - outside + random.nextInt(range[1] - range[0] + 1 + 2 * outside);
    }

    private int[] range(int call, int which) {
        int lastHouse = Math.max(slow.told(3) - 1, 0);
        int[] house = {0, lastHouse};
        int[][][] ranges = {
            {{0, 5}, {1, 20}, {0, 2}},
            {house, {0, 2}, {0, random.nextBoolean() ? 1 : 20}},
            {{0, 5}, {0, 9}},
            {{random.nextBoolean() ? 1 : 60, random.nextBoolean() ? 100 : 400}},
            {house, house},
            {}, {},
            {{0, 999999}, {0, 9}},
            {house, {0, 4}},
            {house, {0, 5}},
            {{0, 2}, {0, 5}},
            {{0, 5}},
            {},
            {{0, 1}},
            {{0, 1}},
            {house, {0, 2}},
            {house, house},
            {}, {}, {}, {},
            {{0, 2}},
            {house},
            {{0, 9}},
            {{0, 1 << random.nextInt(20)}},
            {},
            {{0, 3}},
            {{0, 7}},
            {}};
        return which < ranges[call].length ? ranges[call][which] : new int[] {0, 0};
    }

    private long onFast(int call, int a, int b, int c) {
        switch (call) {
            case 0: return x.house(a, b, c);
            case 1: return x.sets(a, b, c);
            case 2: return x.weight(a, b);
            case 3: return x.fuse(a);
            case 4: return x.tie(a, b);
            case 5: return x.loosens();
            case 6: return x.anew();
            case 7: return x.draw(a, b);
            case 8: return x.of(a, b);
            case 9: return x.takes(a, b);
            case 10: return x.load(a, b);
            case 11: return x.neutral(a);
            case 12: return x.grief();
            case 13: return x.good(a);
            case 14: return x.worst(a);
            case 15: return x.change(a, b);
            case 16: return x.swap(a, b);
            case 17: return x.step();
            case 18: return x.down();
            case 19: return x.lay();
            case 20: return x.undo();
            case 21: return x.best(a);
            case 22: return x.phase(a);
            case 23: return x.by(a);
            case 24: return x.fewest(a);
            case 25: return x.many();
            case 26: return x.next(a);
            case 27: return x.told(a);
            default: return x.digest();
        }
    }

    private long onSlow(int call, int a, int b, int c) {
        switch (call) {
            case 0: return slow.house(a, b, c);
            case 1: return slow.sets(a, b, c);
            case 2: return slow.weight(a, b);
            case 3: return slow.fuse(a);
            case 4: return slow.tie(a, b);
            case 5: return slow.loosens();
            case 6: return slow.anew();
            case 7: return slow.draw(a, b);
            case 8: return slow.of(a, b);
            case 9: return slow.takes(a, b);
            case 10: return slow.load(a, b);
            case 11: return slow.neutral(a);
            case 12: return slow.grief();
            case 13: return slow.good(a);
            case 14: return slow.worst(a);
            case 15: return slow.change(a, b);
            case 16: return slow.swap(a, b);
            case 17: return slow.step();
            case 18: return slow.down();
            case 19: return slow.lay();
            case 20: return slow.undo();
            case 21: return slow.best(a);
            case 22: return slow.phase(a);
            case 23: return slow.by(a);
            case 24: return slow.fewest(a);
            case 25: return slow.many();
            case 26: return slow.next(a);
            case 27: return slow.told(a);
            default: return slow.digest();
        }
    }
}
