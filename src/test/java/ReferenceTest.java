import java.util.ArrayList;
import java.util.Arrays;
import java.util.List;
import java.util.Random;

/**
 * Random equations against the document's words taken literally: roots and w by trying every
 * NUMBER, P by elimination over all degrees 0 .. 12, series by what they leave of the EQUATION.
 * The source of random numbers has a fixed seed.
 */
public final class ReferenceTest {
    private static final int PRIME = 32003;
    private static final Random RANDOM = new Random(20261115);
    private static int wrong = 0;
    private static final int[] seenDegrees = new int[13];
    private static final int[] seenKinds = new int[4];
    private static OrderTwoCases kept = null;
    private static int made = 0;

    private static void due(String what, long got, long want) {
        if (got != want) {
            wrong++;
            if (wrong < 50) {
                System.out.println(what + " answered " + got + ", due is " + want);
            }
        }
    }

    private static long mod(long v) {
        return Math.floorMod(v, (long) PRIME);
    }

    private static long inverse(long v) {
        long a = mod(v);
        long b = PRIME;
        long s = 1;
        long t = 0;
        while (b != 0) {
            long q = a / b;
            long next = a - q * b;
            a = b;
            b = next;
            next = s - q * t;
            s = t;
            t = next;
        }
        return mod(s);
    }

    private static long get(long[] p, int power) {
        return power >= 0 && power < p.length ? p[power] : 0;
    }

    private static long[] plus(long[] a, long[] b, long times) {
        long[] sum = new long[Math.max(a.length, b.length)];
        for (int i = 0; i < sum.length; i++) {
            sum[i] = mod(get(a, i) + times * get(b, i));
        }
        return sum;
    }

    private static long[] times(long[] a, long[] b) {
        long[] product = new long[a.length + b.length];
        for (int i = 0; i < a.length; i++) {
            for (int j = 0; j < b.length; j++) {
                product[i + j] = mod(product[i + j] + a[i] * b[j]);
            }
        }
        return product;
    }

    private static long[] slopeOf(long[] a) {
        long[] slope = new long[a.length];
        for (int i = 1; i < a.length; i++) {
            slope[i - 1] = mod(i * a[i]);
        }
        return slope;
    }

    private static int top(long[] a) {
        for (int i = a.length - 1; i >= 0; i--) {
            if (a[i] != 0) {
                return i;
            }
        }
        return -1;
    }

    private static long[] restOf(long[] f, long[] g) {
        long[] sum = plus(new long[5], times(f, f), inverse(4));
        return plus(plus(sum, slopeOf(f), inverse(2)), g, -1);
    }

    private static long[] mustBeZero(long[] f, long[] g, long[] u, long[] p) {
        long[] first = plus(f, u, 2);
        long[] zeroth = plus(plus(plus(slopeOf(u), times(u, u), 1), times(f, u), 1), g, 1);
        return plus(plus(slopeOf(slopeOf(p)), times(first, slopeOf(p)), 1), times(zeroth, p), 1);
    }

    /** The P of degree d by elimination, null if there is none; more than one is refused. */
    private static long[] monicOf(long[] f, long[] g, long[] u, int d) {
        long[][] lines = new long[24][d + 1];
        for (int power = 0; power <= d; power++) {
            long[] p = new long[d + 1];
            p[power] = 1;
            long[] left = mustBeZero(f, g, u, p);
            for (int i = 0; i < lines.length; i++) {
                lines[i][power] = power == d ? mod(-get(left, i)) : get(left, i);
            }
        }
        int done = 0;
        for (int column = 0; column < d; column++) {
            done += eliminate(lines, done, column) ? 1 : 0;
        }
        for (int i = done; i < lines.length; i++) {
            if (lines[i][d] != 0) {
                return null;
            }
        }
        if (done < d) {
            throw new IllegalStateException("more than one P");
        }
        long[] p = new long[d + 1];
        p[d] = 1;
        for (int i = 0; i < d; i++) {
            p[i] = lines[i][d];
        }
        return p;
    }

    /** Whether a line from the done-th on has something in the column, which then has 1 there alone. */
    private static boolean eliminate(long[][] lines, int done, int column) {
        int pivot = done;
        while (pivot < lines.length && lines[pivot][column] == 0) {
            pivot++;
        }
        if (pivot == lines.length) {
            return false;
        }
        long[] line = lines[pivot];
        lines[pivot] = lines[done];
        lines[done] = plus(new long[line.length], line, inverse(line[column]));
        for (int i = 0; i < lines.length; i++) {
            if (i != done) {
                lines[i] = plus(lines[i], lines[done], -lines[i][column]);
            }
        }
        return true;
    }

    private static long[] sumOf(long[] rest, int m) {
        int n = top(rest) / 2;
        long[] w = new long[3];
        w[n] = m;
        for (int i = n - 1; i >= 0; i--) {
            for (int v = 0; v < PRIME; v++) {
                w[i] = v;
                if (get(times(w, w), n + i) == rest[n + i]) {
                    break;
                }
            }
        }
        if (top(plus(rest, times(w, w), -1)) >= Math.max(n, 0)) {
            throw new IllegalStateException("no w");
        }
        return w;
    }

    private static List<Integer> rootsOf(long v) {
        List<Integer> roots = new ArrayList<>();
        for (int m = 0; m < PRIME; m++) {
            if (mod((long) m * m) == v) {
                roots.add(m);
            }
        }
        return roots;
    }

    /** An object with the equation; each is used twice, so that nothing of the one before may stay. */
    private static OrderTwoCases equation(long[] f, long[] g) {
        if (made % 2 == 0) {
            kept = new OrderTwoCases();
        }
        made++;
        OrderTwoCases x = kept;
        for (int i = 0; i <= 2; i++) {
            x.put(0, i, f[i] + PRIME * (long) RANDOM.nextInt());
        }
        for (int i = 0; i <= 4; i++) {
            x.put(1, i, g[i] + PRIME * (long) RANDOM.nextInt());
        }
        return x;
    }

    private static void compare(long[] f, long[] g) {
        OrderTwoCases x = equation(f, g);
        String name = Arrays.toString(f) + Arrays.toString(g);
        long[] rest = restOf(f, g);
        for (int i = 0; i <= 4; i++) {
            due(name + " rest " + i, x.at(2, i), rest[i]);
        }
        int top = top(rest);
        List<Integer> roots = top < 0 ? List.of() : rootsOf(rest[top]);
        int kind = top < 0 ? 0 : top % 2 == 1 ? 1 : roots.isEmpty() ? 2 : 3;
        due(name + " kind", x.kind(), kind);
        seenKinds[kind]++;
        List<long[][]> answers = new ArrayList<>();
        if (kind == 0) {
            long[] u = plus(new long[3], f, -inverse(2));
            answers.add(new long[][] {u, {1}});
            answers.add(new long[][] {u, {0, 1}});
        }
        for (int which = 0; kind == 3 && which < 2; which++) {
            int m = roots.get(which);
            long[] w = sumOf(rest, m);
            long left = get(plus(rest, times(w, w), -1), top / 2 - 1);
            due(name + " tried " + which, x.tried(which), mod((left * inverse(m) - top / 2) % PRIME * inverse(2)));
            long[] u = plus(w, f, -inverse(2));
            for (int d = 0; d <= 12; d++) {
                long[] p = monicOf(f, g, u, d);
                if (p != null) {
                    answers.add(new long[][] {u, p});
                }
            }
        }
        due(name + " answers", x.answers(), answers.size());
        for (int k = 0; k < Math.min(answers.size(), x.answers()); k++) {
            compareAnswer(x, f, g, answers.get(k), k);
        }
        checkSeries(x, f, g);
    }

    private static void compareAnswer(OrderTwoCases x, long[] f, long[] g, long[][] want, int k) {
        String name = Arrays.toString(f) + Arrays.toString(g) + " answer " + k;
        long[] u = want[0];
        long[] p = want[1];
        due(name + " degree", x.degree(k), p.length - 1);
        seenDegrees[p.length - 1]++;
        for (int i = 0; i <= 12; i++) {
            due(name + " polynomial " + i, x.polynomial(k, i), get(p, i));
        }
        for (int i = 0; i <= 2; i++) {
            due(name + " slope " + i, x.slope(k, i), u[i]);
        }
        long[] whole = times(p, exponential(u));
        for (int i = 0; i <= 40; i++) {
            due(name + " answer " + i, x.answer(k, i), whole[i]);
        }
        if (p.length <= 3) {
            int c = 1 + RANDOM.nextInt(PRIME - 1);
            int[] q = {(int) mod(c * get(p, 0)), (int) mod(c * get(p, 1)), (int) mod(c * get(p, 2))};
            int far = PRIME * (RANDOM.nextInt(60000) - 30000);
            due(name + " proves", x.proves((int) u[0], (int) u[1], (int) u[2], q[0] + far, q[1], q[2]) ? 1 : 0, 1);
        }
    }

    /** The numbers 0 .. 41 of what has 1 at power 0 and u times it as slope. */
    private static long[] exponential(long[] u) {
        long[] e = new long[42];
        e[0] = 1;
        for (int i = 1; i < e.length; i++) {
            long sum = 0;
            for (int j = 0; j <= 2 && j < i; j++) {
                sum += u[j] * e[i - 1 - j];
            }
            e[i] = mod(mod(sum) * inverse(i));
        }
        return e;
    }

    private static void checkSeries(OrderTwoCases x, long[] f, long[] g) {
        String name = Arrays.toString(f) + Arrays.toString(g);
        long a = RANDOM.nextLong();
        long b = RANDOM.nextLong();
        long[] y = new long[41];
        for (int i = 0; i <= 40; i++) {
            y[i] = x.series(a, b, i);
            due(name + " a NUMBER", y[i], mod(y[i]));
        }
        due(name + " series 0", y[0], mod(a));
        due(name + " series 1", y[1], mod(b));
        long[] left = plus(plus(slopeOf(slopeOf(y)), times(f, slopeOf(y)), 1), times(g, y), 1);
        for (int i = 0; i <= 38; i++) {
            due(name + " series leaves at " + i, left[i], 0);
        }
    }

    private static void compareProves(long[] f, long[] g) {
        OrderTwoCases x = equation(f, g);
        int span = 2 + RANDOM.nextInt(3);
        long[] u = {RANDOM.nextInt(span), RANDOM.nextInt(span), RANDOM.nextInt(span)};
        long[] p = {RANDOM.nextInt(span), RANDOM.nextInt(span), RANDOM.nextInt(span)};
        boolean want = top(mustBeZero(f, g, u, p)) < 0;
        boolean got = x.proves((int) u[0], (int) u[1], (int) u[2], (int) p[0], (int) p[1], (int) p[2]);
        due(Arrays.toString(f) + Arrays.toString(g) + " proves", got ? 1 : 0, want ? 1 : 0);
    }

    private static void compareMove() {
        long[] f = randomRow(2, PRIME);
        long[] g = randomRow(4, PRIME);
        OrderTwoCases x = equation(f, g);
        long by = RANDOM.nextLong();
        x.move(by);
        for (int at = 0; at < 6; at++) {
            due("move f", value(new long[] {x.at(0, 0), x.at(0, 1), x.at(0, 2)}, at), value(f, mod(by) + at));
            long[] moved = {x.at(1, 0), x.at(1, 1), x.at(1, 2), x.at(1, 3), x.at(1, 4)};
            due("move g", value(moved, at), value(g, mod(by) + at));
        }
    }

    private static long value(long[] p, long at) {
        long sum = 0;
        for (int i = p.length - 1; i >= 0; i--) {
            sum = mod(sum * mod(at) + p[i]);
        }
        return sum;
    }

    private static long[] randomRow(int top, int span) {
        long[] row = new long[top + 1];
        for (int i = 0; i <= top; i++) {
            row[i] = mod(RANDOM.nextInt(span) - (span < PRIME ? span / 2 : 0));
        }
        return row;
    }

    /** The g that gives, with f, the rest w w + left. */
    private static long[] equationOf(long[] f, long[] w, long[] left) {
        long[] rest = plus(plus(new long[5], times(w, w), 1), left, 1);
        return Arrays.copyOf(plus(restOf(f, new long[5]), rest, -1), 5);
    }

    private static void compareWithAnswer(int n, int d) {
        long[] f = randomRow(2, PRIME);
        long[] w = new long[3];
        for (int i = 0; i <= n; i++) {
            w[i] = 1 + RANDOM.nextInt(PRIME - 1);
        }
        long[] left = new long[5];
        if (n > 0) {
            left[n - 1] = mod(w[n] * (2 * d + n));
        }
        if (n == 2) {
            left[0] = fitting(w, left, d);
        }
        compare(f, equationOf(f, w, left));
        left[0] = mod(left[0] + 1);
        compare(f, equationOf(f, w, left));
    }

    /** A number left at power 0 for which P of degree d is there, or any if there is none. */
    private static long fitting(long[] w, long[] left, int d) {
        long scale = inverse(2 * w[2]);
        for (int v = 0; v < PRIME; v++) {
            long[] p = new long[d + 3];
            p[d] = 1;
            for (int k = d - 1; k >= -1; k--) {
                long more = (k + 3 < p.length ? (k + 3L) * (k + 2) * p[k + 3] : 0);
                more += 2 * w[1] * (k + 1) % PRIME * p[k + 1] + 2 * w[0] * (k + 2) % PRIME * p[k + 2];
                more = mod(more + (w[1] - v) * p[k + 1]);
                if (k >= 0) {
                    p[k] = mod(more * scale % PRIME * inverse(d - k));
                } else if (more == 0) {
                    return v;
                }
            }
        }
        return 0;
    }

    public static void main(String[] args) {
        for (int i = 0; i < 200; i++) {
            compare(randomRow(2, PRIME), randomRow(4, PRIME));
            compare(randomRow(2, 3), randomRow(4, 3));
            compare(randomRow(2, 7), equationOf(randomRow(2, 7), new long[3], new long[5]));
            compareMove();
        }
        for (int i = 0; i < 20000; i++) {
            // A short g makes it likelier that something is proved.
            compareProves(randomRow(2, 3), Arrays.copyOf(randomRow(i % 5, 3), 5));
        }
        for (int i = 0; i < 40; i++) {
            long[] f = randomRow(2, PRIME);
            compare(f, equationOf(f, new long[3], new long[5]));
            compareWithAnswer(0, 0);
        }
        for (int d = 0; d <= 14; d++) {
            for (int i = 0; i < 3; i++) {
                compareWithAnswer(1, d);
                compareWithAnswer(2, d);
            }
        }
        for (int i = 0; i < 20; i++) {
            made = 0;
            long[] f = randomRow(2, PRIME);
            compare(f, equationOf(f, new long[] {3, 2, 0}, new long[] {2 * (2 * (i % 13) + 1)}));
            compare(f, equationOf(f, new long[] {i % 3, 0, 0}, new long[5]));
        }
        for (int d = 0; d <= 12; d++) {
            due("an answer of degree " + d + " was seen", seenDegrees[d] > 2 ? 1 : 0, 1);
        }
        for (int kind = 0; kind <= 3; kind++) {
            due("kind " + kind + " was seen", seenKinds[kind] > 9 ? 1 : 0, 1);
        }
        System.out.println(wrong == 0 ? "all answers are as due" : wrong + " answers are not as due");
        if (wrong != 0) {
            System.exit(1);
        }
    }
}
