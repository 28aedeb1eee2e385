import java.util.Map;

/** Counts answers, prints each that is not the one that is due, and ends the test program with 1 if there was one. */
final class Check {
    private static final int MOST_PRINTED = 60;

    private static int right;
    private static int wrong;

    private Check() {
    }

    static void due(String what, long got, long want) {
        if (got == want) {
            right++;
            return;
        }
        wrong++;
        if (wrong <= MOST_PRINTED) {
            System.out.println(what + ": answered " + got + ", due is " + want);
        }
    }

    static void holds(String what, boolean held) {
        due(what, held ? 1 : 0, 1);
    }

    /** What is refused is counted once, under why, and all else that can be asked answers as without the call. */
    static void refused(Run x, String what, Run.Call call, int why) {
        Run without = x.twin();
        Run with = x.twin();
        due(what, with.call(call), why);
        compare(what, Asked.all(with), Asked.all(without), why);
        refusedBehindSearch(x, what, call, why);
        due(what, x.call(call), why);
    }

    /** The same, if BEST and the BEST STEP were asked already ahead of it. */
    private static void refusedBehindSearch(Run x, String what, Run.Call call, int why) {
        Run without = x.twin();
        Run with = x.twin();
        without.best(0);
        without.next(0);
        with.best(0);
        with.next(0);
        due(what + ", behind a search", with.call(call), why);
        compare(what + ", behind a search", Asked.all(with), Asked.all(without), why);
    }

    private static void compare(String what, Map<String, Long> got, Map<String, Long> want, int why) {
        String counter = "told(" + counterOf(why) + ")";
        due(what + ", how many answers", got.size(), want.size());
        for (Map.Entry<String, Long> entry : want.entrySet()) {
            String asked = entry.getKey();
            long more = asked.equals(counter) ? 1 : asked.equals("digest()") ? oneRefusedMore(want, why) : 0;
            due(what + ", then " + asked, got.getOrDefault(asked, Long.MIN_VALUE), entry.getValue() + more);
        }
    }

    private static int counterOf(int why) {
        return why == PhaseLoads.BAD ? 0 : why == PhaseLoads.NO ? 1 : 2;
    }

    /** By how much digest is more: each value behind the counter makes it 31 times as much. */
    private static long oneRefusedMore(Map<String, Long> answers, int why) {
        long behind = 7 - counterOf(why) + 3 * answers.get("told(3)") + 6 + 2 * answers.get("told(4)") + 1;
        return power31(behind);
    }

    static long power31(long n) {
        long power = 1;
        for (long i = 0; i < n; i++) {
            power *= 31;
        }
        return power;
    }

    static void end() {
        System.out.println("answers: " + right + " as due, " + wrong + " not");
        if (wrong != 0 || right == 0) {
            System.exit(1);
        }
    }
}
