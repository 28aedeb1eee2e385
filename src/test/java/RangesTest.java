import java.util.ArrayList;
import java.util.List;

/**
 * 'BAD -2 a number is not as told': each number of each call, by itself: all that are inside its range (the two ends, if
 * they are many) are taken, and the first one outside it on either side, the least and the greatest int are refused.
 */
public final class RangesTest {
    private static final int BAD = PhaseLoads.BAD;
    private static final int FAR = Integer.MAX_VALUE, LOW = Integer.MIN_VALUE;
    private static final int MOST_TRIED = 21;

    private interface ByNumber {
        long on(PhaseLoads x, int v);
    }

    private record Argument(String what, int least, int most, ByNumber call) {
    }

    public static void main(String[] args) {
        for (Argument argument : ofTheStreet()) {
            isAsTold(twoHouses(), argument);
            isAsTold(new Run(), argument);
        }
        for (Argument argument : ofQuestions()) {
            isAsTold(new Run(), argument);
            isAsTold(twoHouses(), argument);
            isAsTold(nineHouses(), argument);
        }
        for (Argument argument : ofOneHouse(1)) {
            isAsTold(oneHouse(), argument);
        }
        for (Argument argument : ofOneHouse(9)) {
            isAsTold(nineHouses(), argument);
        }
        for (Argument argument : ofTwoHouses(2)) {
            isAsTold(twoHouses(), argument);
        }
        for (Argument argument : ofTwoHouses(9)) {
            isAsTold(nineHouses(), argument);
        }
        noHouses();
        housesThatAreGone();
        sizesOfAllSorts();
        Check.end();
    }

    private static Run oneHouse() {
        Run x = new Run();
        x.house(1, 20, 2);
        x.change(0, 1);
        return x;
    }

    private static Run twoHouses() {
        Run x = new Run();
        x.house(5, 3, 1);
        x.house(4, 7, 1);
        x.change(1, 0);
        return x;
    }

    private static Run nineHouses() {
        Run x = new Run();
        x.draw(1234, 9);
        x.change(8, 1);
        return x;
    }

    private static List<Argument> ofTheStreet() {
        List<Argument> all = new ArrayList<>();
        all.add(new Argument("2: house, SORT", 0, 5, (y, v) -> y.house(v, 1, 0)));
        all.add(new Argument("2: house, SIZE", 1, 20, (y, v) -> y.house(0, v, 0)));
        all.add(new Argument("2: house, PHASE", 0, 2, (y, v) -> y.house(5, 20, v)));
        all.add(new Argument("4: weight, HOUR", 0, 5, (y, v) -> y.weight(v, 3)));
        all.add(new Argument("4: weight, WEIGHT", 0, 9, (y, v) -> y.weight(5, v)));
        all.add(new Argument("5: fuse", 1, 400, (y, v) -> y.fuse(v)));
        all.add(new Argument("9: draw, SEED", 0, 999999, (y, v) -> y.draw(v, 9)));
        all.add(new Argument("9: draw, SEED for none", 0, 999999, (y, v) -> y.draw(v, 0)));
        all.add(new Argument("9: draw, n", 0, 9, (y, v) -> y.draw(999999, v)));
        return all;
    }

    private static List<Argument> ofQuestions() {
        List<Argument> all = new ArrayList<>();
        all.add(new Argument("12: load, PHASE", 0, 2, (y, v) -> y.load(v, 5)));
        all.add(new Argument("12: load, HOUR", 0, 5, (y, v) -> y.load(2, v)));
        all.add(new Argument("13: neutral, HOUR", 0, 5, (y, v) -> y.neutral(v)));
        all.add(new Argument("15: good, what", 0, 1, (y, v) -> y.good(v)));
        all.add(new Argument("16: worst, what", 0, 1, (y, v) -> y.worst(v)));
        all.add(new Argument("23: best, what", 0, 2, (y, v) -> y.best(v)));
        all.add(new Argument("25: by, n", 0, 9, (y, v) -> y.by(v)));
        all.add(new Argument("26: fewest, g", 0, FAR, (y, v) -> y.fewest(v)));
        all.add(new Argument("29: told, what", 0, 7, (y, v) -> y.told(v)));
        return all;
    }

    private static List<Argument> ofOneHouse(int houses) {
        int last = houses - 1;
        List<Argument> all = new ArrayList<>();
        all.add(new Argument("3: sets SORT, HOUSE", 0, last, (y, v) -> y.sets(v, 0, 5)));
        all.add(new Argument("3: sets SIZE, HOUSE", 0, last, (y, v) -> y.sets(v, 1, 20)));
        all.add(new Argument("3: sets FIXED, HOUSE", 0, last, (y, v) -> y.sets(v, 2, 1)));
        all.add(new Argument("3: sets, what", 0, 2, (y, v) -> y.sets(last, v, 1)));
        all.add(new Argument("3: sets, SORT", 0, 5, (y, v) -> y.sets(last, 0, v)));
        all.add(new Argument("3: sets, SIZE", 1, 20, (y, v) -> y.sets(last, 1, v)));
        all.add(new Argument("3: sets, FIXED", 0, 1, (y, v) -> y.sets(last, 2, v)));
        all.add(new Argument("10: of, HOUSE", 0, last, (y, v) -> y.of(v, 4)));
        all.add(new Argument("10: of, what", 0, 4, (y, v) -> y.of(last, v)));
        all.add(new Argument("11: takes, HOUSE", 0, last, (y, v) -> y.takes(v, 5)));
        all.add(new Argument("11: takes, HOUR", 0, 5, (y, v) -> y.takes(last, v)));
        all.add(new Argument("17: change, HOUSE", 0, last, (y, v) -> y.change(v, 2)));
        all.add(new Argument("17: change, PHASE", 0, 2, (y, v) -> y.change(last, v)));
        all.add(new Argument("24: phase, HOUSE", 0, last, (y, v) -> y.phase(v)));
        all.add(new Argument("28: next, what", 0, 3, (y, v) -> y.next(v)));
        return all;
    }

    private static List<Argument> ofTwoHouses(int houses) {
        int last = houses - 1;
        List<Argument> all = new ArrayList<>();
        // the last one is put beside all others, the others beside the first one, so that no two are alike
        all.add(new Argument("6: tie, the first", 0, last, (y, v) -> y.tie(v, v == last ? 0 : last)));
        all.add(new Argument("6: tie, the other", 0, last, (y, v) -> y.tie(v == last ? 0 : last, v)));
        all.add(new Argument("18: swap, the first", 0, last, (y, v) -> y.swap(v, v == last ? 0 : last)));
        all.add(new Argument("18: swap, the other", 0, last, (y, v) -> y.swap(v == last ? 0 : last, v)));
        return all;
    }

    private static void isAsTold(Run x, Argument argument) {
        boolean few = (long) argument.most - argument.least < MOST_TRIED;
        if (few) {
            for (int v = argument.least; v <= argument.most; v++) {
                isTaken(x, argument, v);
            }
        } else {
            isTaken(x, argument, argument.least);
            isTaken(x, argument, argument.least + 1);
            isTaken(x, argument, argument.most - 1);
            isTaken(x, argument, argument.most);
        }
        isBad(x, argument, argument.least - 1);
        isBad(x, argument, -1000);
        isBad(x, argument, LOW);
        if (argument.most < FAR) {
            isBad(x, argument, argument.most + 1);
            isBad(x, argument, FAR);
        }
    }

    private static void isTaken(Run x, Argument argument, int v) {
        Run twin = x.twin();
        twin.call(y -> argument.call.on(y, v));
        for (int why = 0; why < 3; why++) {
            Check.due(argument.what + " " + v + ", not refused", twin.told(why), 0);
        }
    }

    private static void isBad(Run x, Argument argument, int v) {
        Check.refused(x.twin(), argument.what + " " + v, y -> argument.call.on(y, v), BAD);
    }

    /** No number is that of a HOUSE. */
    private static void noHouses() {
        for (int h : new int[] {LOW, -1, 0, 1, 8, 9, FAR}) {
            noSuchHouse("no HOUSES", new Run(), h);
        }
    }

    /** HOUSES that there were are none any more. */
    private static void housesThatAreGone() {
        Run drawn = nineHouses();
        drawn.draw(77, 4);
        noSuchHouse("four in place of nine", drawn, 4);
        noSuchHouse("four in place of nine", drawn, 8);
        Run none = nineHouses();
        none.draw(77, 0);
        noSuchHouse("none in place of nine", none, 0);
        Run anew = nineHouses();
        anew.anew();
        noSuchHouse("anew", anew, 0);
        anew.house(0, 1, 0);
        noSuchHouse("one anew", anew, 1);
    }

    private static void noSuchHouse(String state, Run x, int h) {
        Run.Call[] calls = {
            y -> y.sets(h, 0, 0), y -> y.sets(h, 1, 1), y -> y.sets(h, 2, 0), y -> y.tie(h, 0), y -> y.tie(0, h),
            y -> y.of(h, 0), y -> y.of(h, 2), y -> y.of(h, 4), y -> y.takes(h, 0), y -> y.change(h, 0),
            y -> y.swap(h, 0), y -> y.swap(0, h), y -> y.phase(h)};
        for (int i = 0; i < calls.length; i++) {
            Check.refused(x.twin(), state + ", HOUSE " + h + ", call " + i, calls[i], BAD);
        }
    }

    /** Of which SORT, PHASE a HOUSE is does not make its SIZE another range. */
    private static void sizesOfAllSorts() {
        for (int sort = 0; sort < 6; sort++) {
            for (int phase = 0; phase < 3; phase++) {
                int s = sort;
                int p = phase;
                isAsTold(new Run(), new Argument("2: SIZE of SORT " + s, 1, 20, (y, v) -> y.house(s, v, p)));
            }
        }
    }
}
