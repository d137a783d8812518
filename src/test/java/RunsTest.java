import java.util.Arrays;
import java.util.Random;

/**
 * Long runs of mixed calls, wrong ones among them, on one object: each answer must be that of a new
 * object into which the same f and g were put, so that nothing of earlier calls may stay. What f
 * and g are the test keeps by itself. The source of random numbers has a fixed seed.
 */
public final class RunsTest {
    private static final int PRIME = 32003;
    private static final int CALLS = 512;
    private static final int RUNS = 150;
    private static final int NAMES = 13;
    private static final Random RANDOM = new Random(20261116);
    private static final int[] seenKinds = new int[4];
    private static final int[] seenAnswers = new int[3];
    private static int refused = 0;
    private static int wrong = 0;

    /** One call: which method, and numbers from which its arguments are taken. */
    private static final class Call {
        final int method;
        final int[] small = new int[6];
        final long[] large = new long[2];

        Call() {
            method = RANDOM.nextInt(NAMES);
            boolean any = RANDOM.nextInt(12) == 0;
            for (int i = 0; i < small.length; i++) {
                small[i] = any ? RANDOM.nextInt() : RANDOM.nextInt(4) - (RANDOM.nextInt(6) == 0 ? 2 : 0);
            }
            for (int i = 0; i < large.length; i++) {
                large[i] = any ? RANDOM.nextLong() : RANDOM.nextInt(7) - 3;
            }
        }

        String told() {
            return method + Arrays.toString(small) + Arrays.toString(large);
        }

        private int power() {
            return small[1] + small[2] * 7;
        }

        /** The answer as a text, or the name of what was thrown. */
        String on(OrderTwoCases x) {
            try {
                return answered(x);
            } catch (RuntimeException e) {
                return e.getClass().getSimpleName();
            }
        }

        private String answered(OrderTwoCases x) {
            switch (method) {
                case 0: return "" + x.put(small[0], small[1] + small[2] / 2, large[0]);
                case 1: return "" + x.at(small[0], small[1] + small[2] / 2);
                case 2: x.move(large[0]); return "moved";
                case 3: return "" + x.kind();
                case 4: return "" + x.tried(small[0]);
                case 5: return "" + x.answers();
                case 6: return "" + x.degree(small[0]);
                case 7: return "" + x.polynomial(small[0], power());
                case 8: return "" + x.slope(small[0], small[1]);
                case 9: return "" + x.series(large[0], large[1], power() + small[3] * 8);
                case 10: return "" + x.answer(small[0], power() + small[3] * 8);
                case 11: return "" + x.proves(small[0], small[1], small[2], small[3], small[4], small[5]);
                default: return clearedSeldom(x);
            }
        }

        /** A run that is cleared often would see little but the equation y'' = 0. */
        private String clearedSeldom(OrderTwoCases x) {
            if (small[0] == small[1]) {
                x.clear();
                return "cleared";
            }
            return "" + x.kind();
        }
    }

    /** What the calls before have made of f and g. */
    private static final class Equation {
        private final long[][] rows = {new long[3], new long[5]};

        OrderTwoCases made() {
            OrderTwoCases x = new OrderTwoCases();
            for (int which = 0; which < 2; which++) {
                for (int i = 0; i < rows[which].length; i++) {
                    x.put(which, i, rows[which][i]);
                }
            }
            return x;
        }

        void take(Call call, String answer) {
            if (answer.equals("true") || answer.equals("false")) {
                if (call.method == 0) {
                    rows[call.small[0]][call.small[1] + call.small[2] / 2] = mod(call.large[0]);
                }
            } else if (answer.equals("moved")) {
                rows[0] = moved(rows[0], mod(call.large[0]));
                rows[1] = moved(rows[1], mod(call.large[0]));
            } else if (answer.equals("cleared")) {
                Arrays.fill(rows[0], 0);
                Arrays.fill(rows[1], 0);
            }
        }

        /** The polynomial with x + by in place of x, highest power first: times x + by, then the next. */
        private static long[] moved(long[] row, long by) {
            long[] sum = new long[row.length];
            for (int power = row.length - 1; power >= 0; power--) {
                long[] next = new long[row.length];
                for (int i = 0; i < row.length; i++) {
                    next[i] = mod(sum[i] * by + (i > 0 ? sum[i - 1] : 0));
                }
                next[0] = mod(next[0] + row[power]);
                sum = next;
            }
            return sum;
        }
    }

    private static long mod(long v) {
        return Math.floorMod(v, (long) PRIME);
    }

    private static void fault(String what) {
        wrong++;
        if (wrong < 50) {
            System.out.println(what);
        }
    }

    private static void run(int number) {
        OrderTwoCases x = new OrderTwoCases();
        Equation equation = new Equation();
        for (int i = 0; i < CALLS; i++) {
            Call call = new Call();
            OrderTwoCases fresh = equation.made();
            String want = call.on(fresh);
            String got = call.on(x);
            if (!got.equals(want)) {
                fault("run " + number + " call " + i + " " + call.told() + " answered " + got + ", due is " + want);
                return;
            }
            equation.take(call, want);
            count(fresh, want);
        }
    }

    private static void count(OrderTwoCases fresh, String answer) {
        refused += answer.endsWith("Exception") ? 1 : 0;
        seenKinds[fresh.kind()]++;
        seenAnswers[fresh.answers()]++;
    }

    /** So that a change of the calls' making does not leave the test empty. */
    private static void muchWasSeen() {
        for (int kind = 0; kind < seenKinds.length; kind++) {
            if (seenKinds[kind] < 500) {
                fault("kind " + kind + " was seen " + seenKinds[kind] + " times only");
            }
        }
        for (int count = 0; count < seenAnswers.length; count++) {
            if (seenAnswers[count] < 500) {
                fault(count + " answers were seen " + seenAnswers[count] + " times only");
            }
        }
        if (refused < 500) {
            fault("refused calls were seen " + refused + " times only");
        }
    }

    public static void main(String[] args) {
        for (int i = 0; i < RUNS; i++) {
            run(i);
        }
        muchWasSeen();
        System.out.println(wrong == 0 ? "all answers are as due" : wrong + " answers are not as due");
        if (wrong != 0) {
            System.exit(1);
        }
    }
}
