/** Counts answers, prints each that is not the one that is due, and ends the test program with 1 if there was one. */
final class Check {
    private static int right;
    private static int wrong;

    private Check() {
    }

    static void due(String what, long got, long want) {
        if (got == want) {
            right++;
        } else {
            wrong++;
            System.out.println(what + ": answered " + got + ", due is " + want);
        }
    }

    static void holds(String what, boolean held) {
        due(what, held ? 1 : 0, 1);
    }

    /** What is refused changes nothing but how often: the whole digest is asked ahead of it and behind it. */
    static void refused(PhaseLoads x, String what, Call call, int why) {
        int counter = why == PhaseLoads.BAD ? 0 : why == PhaseLoads.NO ? 1 : 2;
        int often = x.told(counter);
        int[] ahead = state(x);
        due(what, call.on(x), why);
        due(what + ", how often", x.told(counter), often + 1);
        int[] behind = state(x);
        for (int i = 0; i < ahead.length; i++) {
            due(what + ", state " + i + " behind it", behind[i], i == counter ? ahead[i] + 1 : ahead[i]);
        }
    }

    /** All that can be asked without being refused: told, HOUSES, LOADS. */
    private static int[] state(PhaseLoads x) {
        int[] all = new int[8 + 9 * 5 + 18 + 4];
        int n = 0;
        for (int what = 0; what < 8; what++) {
            all[n++] = x.told(what);
        }
        for (int h = 0; h < x.told(3); h++) {
            for (int what = 0; what < 5; what++) {
                all[n++] = x.of(h, what);
            }
        }
        for (int p = 0; p < 3; p++) {
            for (int t = 0; t < 6; t++) {
                all[n++] = x.load(p, t);
            }
        }
        all[n++] = x.grief();
        all[n++] = x.many();
        all[n++] = x.good(0);
        all[n] = x.good(1);
        return all;
    }

    static void end() {
        System.out.println("answers: " + right + " as due, " + wrong + " not");
        if (wrong != 0 || right == 0) {
            System.exit(1);
        }
    }

    interface Call {
        int on(PhaseLoads x);
    }
}
