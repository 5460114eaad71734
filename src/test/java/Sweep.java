import java.util.ArrayList;
import java.util.List;
import java.util.function.IntUnaryOperator;
import java.util.function.Supplier;

/**
 * One call with one argument n that goes through all numbers that are allowed, those about them, and far ones.
 * Each call is made on an object of its own.
 */
final class Sweep {
    static final int LEAST = Integer.MIN_VALUE, MOST = Integer.MAX_VALUE;

    interface Call {
        int of(ShotBoard x, int n);
    }

    private final Check check;
    private final String told;
    private final Supplier<ShotBoard> maker;
    private final Call call;

    Sweep(Check check, String told, Supplier<ShotBoard> maker, Call call) {
        this.check = check;
        this.told = told;
        this.maker = maker;
        this.call = call;
    }

    /** Due is what good says for first .. last, and no for all other numbers. */
    void numbers(int first, int last, int no, IntUnaryOperator good) {
        for (int n = first; n <= last; n++) {
            due(n, good.applyAsInt(n));
        }
        for (int n : outside(first, last)) {
            due(n, no);
        }
    }

    /** Due is what good says for each place of the plan, and NONE for all other numbers. */
    void places(IntUnaryOperator good) {
        for (int n = -250; n < 3500; n++) {
            due(n, isPlace(n) ? good.applyAsInt(n) : ShotBoard.NONE);
        }
        for (int n : outside(0, 3499)) {
            due(n, ShotBoard.NONE);
        }
    }

    private void due(int n, int want) {
        check.due(told + " with n = " + n, call.of(maker.get(), n), want);
    }

    /** A place by the document's words: some x and some y from 0 to 31. */
    static boolean isPlace(int n) {
        for (int x = 0; x <= 31; x++) {
            for (int y = 0; y <= 31; y++) {
                if (100 * x + y == n) {
                    return true;
                }
            }
        }
        return false;
    }

    /** Just outside, far outside, and numbers that a shift, a mask or a product could bring back inside. */
    static List<Integer> outside(int first, int last) {
        int[] all = {first - 3, first - 2, first - 1, last + 1, last + 2, last + 3, LEAST, LEAST + 1, MOST, MOST - 1,
            first + 32, last + 32, first + 64, last + 64, first + 128, first + 256, first + 1000, first + 65536,
            last + 65536, first + LEAST, last + LEAST, -first, -last, -32, -64, -100, -3131, 1 << 30, -(1 << 30)};
        List<Integer> outside = new ArrayList<>();
        for (int n : all) {
            if ((n < first || n > last) && !outside.contains(n)) {
                outside.add(n);
            }
        }
        return outside;
    }
}
