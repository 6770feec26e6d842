import java.util.ArrayList;
import java.util.List;
import java.util.function.ToLongFunction;

/** Calls that lead a new object to a state, again and again: an object is promised 512 calls alone. */
final class Run {
    static final int MOST_CALLS = 512;

    /** Some questions are two calls: a LOT can only be read by changing it, and is then put back. */
    private static final int CALLS_OF_A_QUESTION = 2;

    private final List<ToLongFunction<SeatCounts>> calls = new ArrayList<>();

    Run then(ToLongFunction<SeatCounts> call) {
        Run longer = new Run();
        longer.calls.addAll(calls);
        longer.calls.add(call);
        return longer;
    }

    SeatCounts made() {
        SeatCounts x = new SeatCounts();
        for (ToLongFunction<SeatCounts> call : calls) {
            call.applyAsLong(x);
        }
        return x;
    }

    /** The answers to questions that change nothing, asked of as many objects as they need. */
    long[] answers(List<ToLongFunction<SeatCounts>> questions) {
        long[] all = new long[questions.size()];
        SeatCounts x = null;
        int left = 0;
        for (int k = 0; k < all.length; k++) {
            if (left < CALLS_OF_A_QUESTION) {
                x = made();
                left = MOST_CALLS - calls.size();
            }
            all[k] = questions.get(k).applyAsLong(x);
            left -= CALLS_OF_A_QUESTION;
        }
        return all;
    }
}
