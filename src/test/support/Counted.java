import java.util.ArrayList;
import java.util.List;

/**
 * A cabinet that refuses to be called more than 512 times: what an object answers behind that is free, so no test may
 * look at it. It knows its calls, so that others can be made with the same calls behind them, to be looked at instead.
 */
final class Counted {
    static final int MOST_CALLS = 512;

    /** One call, with its answer. */
    interface Call {
        Object on(Cardcabinet cabinet);
    }

    private final Cardcabinet cabinet = new Cardcabinet();
    private final List<Call> calls = new ArrayList<>();
    private Counted looker;
    private int lookerKnows;

    Object answer(Call call) {
        if (calls.size() >= MOST_CALLS) {
            throw new AssertionError("a test calls an object more than " + MOST_CALLS + " times");
        }
        calls.add(call);
        return call.on(cabinet);
    }

    /** The answer, or the exception that the call throws. */
    Object outcome(Call call) {
        try {
            return answer(call);
        } catch (RuntimeException e) {
            return "throws." + e.getClass().getSimpleName();
        }
    }

    int callsMade() {
        return calls.size();
    }

    int callsLeft() {
        return MOST_CALLS - calls.size();
    }

    /** Another cabinet with the first calls of this one behind it. */
    Counted again(int howMany) {
        Counted other = new Counted();
        for (int n = 0; n < howMany; n++) {
            other.outcome(calls.get(n));
        }
        return other;
    }

    /** What a question would be answered, asked of another cabinet with the same calls, so that none is used up here. */
    Object look(Call question) {
        if (looker == null || lookerKnows != calls.size() || looker.callsLeft() == 0) {
            looker = again(calls.size());
            lookerKnows = calls.size();
        }
        return looker.answer(question);
    }

    // ---- laying cards

    int type(long bytes) {
        return (int) answer(c -> c.type(bytes));
    }

    int clearText() {
        return (int) answer(Cardcabinet::clearText);
    }

    int fault() {
        return (int) answer(Cardcabinet::fault);
    }

    int lay(int row) {
        return (int) answer(c -> c.lay(row));
    }

    int put(int row, int place, int first, int second) {
        return (int) answer(c -> c.put(row, place, first, second));
    }

    int setSeed(int seed) {
        return (int) answer(c -> c.setSeed(seed));
    }

    // ---- sorting

    int sort(int row) {
        return (int) answer(c -> c.sort(row));
    }

    int sortAll() {
        return (int) answer(Cardcabinet::sortAll);
    }

    int sortPart(int row, int from, int to) {
        return (int) answer(c -> c.sortPart(row, from, to));
    }

    int sortDown(int row, int from, int to) {
        return (int) answer(c -> c.sortDown(row, from, to));
    }

    int sortBySecond(int row) {
        return (int) answer(c -> c.sortBySecond(row));
    }

    int sortByBoth(int row) {
        return (int) answer(c -> c.sortByBoth(row));
    }

    // ---- other changes

    int pour(int row, int other) {
        return (int) answer(c -> c.pour(row, other));
    }

    int deal(int row, int other) {
        return (int) answer(c -> c.deal(row, other));
    }

    int turn(int row) {
        return (int) answer(c -> c.turn(row));
    }

    int move(int row, int from, int to) {
        return (int) answer(c -> c.move(row, from, to));
    }

    int thin(int row, int second) {
        return (int) answer(c -> c.thin(row, second));
    }

    int single(int row) {
        return (int) answer(c -> c.single(row));
    }

    int empty(int row) {
        return (int) answer(c -> c.empty(row));
    }

    int keep(int row) {
        return (int) answer(c -> c.keep(row));
    }

    int restore(int row) {
        return (int) answer(c -> c.restore(row));
    }

    // ---- questions

    int count(int row) {
        return (int) answer(c -> c.count(row));
    }

    int cardAt(int row, int place, int what) {
        return (int) answer(c -> c.cardAt(row, place, what));
    }

    int placeOf(int row, int mark) {
        return (int) answer(c -> c.placeOf(row, mark));
    }

    int placeFor(int row, int first) {
        return (int) answer(c -> c.placeFor(row, first));
    }

    boolean isSorted(int row) {
        return (boolean) answer(c -> c.isSorted(row));
    }

    int runs(int row) {
        return (int) answer(c -> c.runs(row));
    }

    int longestRun(int row) {
        return (int) answer(c -> c.longestRun(row));
    }

    int wrongPairs(int row) {
        return (int) answer(c -> c.wrongPairs(row));
    }

    int unlike(int row) {
        return (int) answer(c -> c.unlike(row));
    }

    long sum(int row) {
        return (long) answer(c -> c.sum(row));
    }

    int compare(int row, int other) {
        return (int) answer(c -> c.compare(row, other));
    }

    int middle(int row) {
        return (int) answer(c -> c.middle(row));
    }

    double mean(int row) {
        return (double) answer(c -> c.mean(row));
    }

    float risingShare(int row) {
        return (float) answer(c -> c.risingShare(row));
    }

    int errors() {
        return (int) answer(Cardcabinet::errors);
    }
}
