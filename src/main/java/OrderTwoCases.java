/**
 * Linear differential equations y'' + f y' + g y = 0 over the numbers modulo 32003: their answers
 * that are a polynomial times an exponential of a polynomial, and their answers as series.
 *
 * With w = u + f/2 an ANSWER is P'' + 2 w P' + (w' + w w - REST) P = 0. Comparing degrees there
 * leaves one w, and one degree of P, for each square root of the REST's highest number, so no
 * search is needed.
 */
public final class OrderTwoCases {
    private static final int PRIME = 32003;
    private static final int HALF = 16002;
    private static final int QUARTER = 8001;

    private static final int F_TOP = 2;
    private static final int G_TOP = 4;
    private static final int U_TOP = 2;
    private static final int P_TOP = 12;
    private static final int SERIES_TOP = 40;

    private static final int REST_ZERO = 0;
    private static final int ODD_DEGREE = 1;
    private static final int NO_SQUARE = 2;
    private static final int HAS_ROOTS = 3;

    private final Operator equation = new Operator();
    private final Study study = new Study();
    private final Pair asked = new Pair();
    private final Row line = new Row(SERIES_TOP);

    // Whether the study tells of the equation as it is now.
    private boolean studied = false;

    public OrderTwoCases() {
    }

    public boolean put(int which, int power, long v) throws IllegalArgumentException, IndexOutOfBoundsException {
        if (which != 0 && which != 1) {
            throw new IllegalArgumentException("which is 0 or 1");
        }
        Row row = which == 0 ? equation.first : equation.zeroth;
        if (!row.has(power)) {
            throw new IndexOutOfBoundsException("no such power");
        }
        int before = row.get(power);
        row.set(power, v);
        studied = false;
        return row.get(power) != before;
    }

    public int at(int which, int power) throws IllegalArgumentException, IndexOutOfBoundsException {
        if (which < 0 || which > 2) {
            throw new IllegalArgumentException("which is 0, 1 or 2");
        }
        Row row = which == 0 ? equation.first : which == 1 ? equation.zeroth : current().rest;
        if (!row.has(power)) {
            throw new IndexOutOfBoundsException("no such power");
        }
        return row.get(power);
    }

    public void move(long by) {
        equation.first.shift(by);
        equation.zeroth.shift(by);
        studied = false;
    }

    public int kind() {
        return current().kindFound;
    }

    public int tried(int root) throws IllegalStateException, IllegalArgumentException {
        Study now = current();
        if (now.kindFound != HAS_ROOTS) {
            throw new IllegalStateException("the kind is not 3");
        }
        if (root != 0 && root != 1) {
            throw new IllegalArgumentException("root is 0 or 1");
        }
        return root == 0 ? now.triedOfLess : now.triedOfGreater;
    }

    public int answers() {
        return current().count;
    }

    public int degree(int k) throws IndexOutOfBoundsException {
        Study now = current();
        if (!now.hasPair(k)) {
            throw new IndexOutOfBoundsException("no such answer");
        }
        return now.pair(k).p.top();
    }

    public int polynomial(int k, int power) throws IndexOutOfBoundsException {
        Study now = current();
        if (!now.hasPair(k) || power < 0 || power > P_TOP) {
            throw new IndexOutOfBoundsException("no such answer or power");
        }
        return now.pair(k).p.get(power);
    }

    public int slope(int k, int power) throws IndexOutOfBoundsException {
        Study now = current();
        if (!now.hasPair(k) || power < 0 || power > U_TOP) {
            throw new IndexOutOfBoundsException("no such answer or power");
        }
        return now.pair(k).u.get(power);
    }

    public int series(long a, long b, int power) throws IndexOutOfBoundsException {
        if (power < 0 || power > SERIES_TOP) {
            throw new IndexOutOfBoundsException("no such power");
        }
        return expand(a, b, power);
    }

    public int answer(int k, int power) throws IndexOutOfBoundsException {
        Study now = current();
        if (!now.hasPair(k) || power < 0 || power > SERIES_TOP) {
            throw new IndexOutOfBoundsException("no such answer or power");
        }
        Pair pair = now.pair(k);
        long start = pair.p.get(0);
        // The exponential begins 1 + u(0) x, as its slope is u times it.
        return expand(start, pair.p.get(1) + start * pair.u.get(0), power);
    }

    public boolean proves(int u0, int u1, int u2, int p0, int p1, int p2) {
        asked.u.set(0, u0);
        asked.u.set(1, u1);
        asked.u.set(2, u2);
        asked.p.set(0, p0);
        asked.p.set(1, p1);
        asked.p.set(2, p2);
        asked.turn(equation);
        return asked.holds();
    }

    public void clear() {
        equation.first.wipe();
        equation.zeroth.wipe();
        studied = false;
    }

    private Study current() {
        if (!studied) {
            study.begin(equation);
            studied = true;
        }
        return study;
    }

    private int expand(long a, long b, int power) {
        line.set(0, a);
        line.set(1, b);
        for (int k = 0; k + 2 <= power && k + 2 <= SERIES_TOP; k++) {
            // Never 0: 40 times 39 is far below the prime.
            int factor = (k + 2) * (k + 1);
            line.set(k + 2, -(long) equation.lowerTerms(line, k) * Numbers.inverse(factor));
        }
        return line.get(power);
    }

    /** The field's arithmetic. */
    private static final class Numbers {
        static int of(long v) {
            int left = (int) (v % PRIME);
            return left < 0 ? left + PRIME : left;
        }

        static int raise(int base, int exponent) {
            long square = of(base);
            long product = 1;
            for (int bit = 0; bit < 15; bit++) {
                if ((exponent >> bit & 1) == 1) {
                    product = product * square % PRIME;
                }
                square = square * square % PRIME;
            }
            return (int) product;
        }

        static int inverse(int v) {
            return raise(v, PRIME - 2);
        }

        /** The less square root, or -1 if there is none. */
        static int lessRoot(int v) {
            // The prime is 3 modulo 4, so this power is a root of each square.
            int root = raise(v, (PRIME + 1) / 4);
            if (of((long) root * root) != v) {
                return -1;
            }
            return Math.min(root, of(-root));
        }
    }

    /** A polynomial with room for powers 0 .. its last one; powers beyond are 0 and stay so. */
    private static final class Row {
        private final int[] numbers;

        Row(int last) {
            numbers = new int[last < 0 || last > SERIES_TOP ? 0 : last + 1];
        }

        boolean has(int power) {
            return power >= 0 && power < numbers.length;
        }

        int get(int power) {
            return power >= 0 && power < numbers.length ? numbers[power] : 0;
        }

        void set(int power, long v) {
            if (power >= 0 && power < numbers.length) {
                numbers[power] = Numbers.of(v);
            }
        }

        void wipe() {
            for (int i = 0; i < numbers.length; i++) {
                numbers[i] = 0;
            }
        }

        /** The highest power whose number is not 0; -1 if all are 0. */
        int top() {
            for (int i = numbers.length - 1; i >= 0; i--) {
                if (numbers[i] != 0) {
                    return i;
                }
            }
            return -1;
        }

        /** Puts x + by in place of x: what each division by x - by leaves is the next number. */
        void shift(long by) {
            long step = Numbers.of(by);
            for (int low = 0; low < numbers.length; low++) {
                for (int i = numbers.length - 2; i >= low; i--) {
                    set(i, get(i) + step * get(i + 1));
                }
            }
        }

        /** The number at a power of the slope, left as large as it comes: who asks adds up in longs. */
        long slopeAt(int power) {
            int above = power + 1;
            return above > 0 && above < numbers.length ? (long) above * numbers[above] : 0;
        }

        /** The number that this times another has at a power. */
        int timesAt(Row other, int power) {
            long sum = 0;
            for (int i = 0; i < numbers.length; i++) {
                sum += (long) numbers[i] * other.get(power - i);
            }
            return Numbers.of(sum);
        }
    }

    /** What takes y to y'' + first y' + zeroth y. */
    private static final class Operator {
        final Row first = new Row(F_TOP);
        final Row zeroth = new Row(G_TOP);

        /** The number at a power of first y' + zeroth y. */
        int lowerTerms(Row y, int power) {
            long sum = 0;
            for (int i = 0; i <= F_TOP; i++) {
                sum += first.get(i) * y.slopeAt(power - i);
            }
            for (int i = 0; i <= G_TOP; i++) {
                sum += (long) zeroth.get(i) * y.get(power - i);
            }
            return Numbers.of(sum);
        }

        int allTerms(Row y, int power) {
            return Numbers.of((power + 2L) * (power + 1L) * y.get(power + 2) + lowerTerms(y, power));
        }
    }

    /** Polynomials u and P, and the operator that must take P to 0. */
    private static final class Pair {
        final Row u = new Row(U_TOP);
        final Row p = new Row(P_TOP);
        private final Operator turned = new Operator();

        void turn(Operator equation) {
            for (int i = 0; i <= F_TOP; i++) {
                turned.first.set(i, 2L * u.get(i) + equation.first.get(i));
            }
            for (int i = 0; i <= G_TOP; i++) {
                long sum = u.slopeAt(i) + u.timesAt(u, i);
                turned.zeroth.set(i, sum + equation.first.timesAt(u, i) + equation.zeroth.get(i));
            }
        }

        boolean holds() {
            for (int power = 0; power <= P_TOP + G_TOP; power++) {
                if (turned.allTerms(p, power) != 0) {
                    return false;
                }
            }
            return true;
        }

        void takePower(int power) {
            p.wipe();
            p.set(power, 1);
        }

        /** Makes u what has, with half of f, the sum w. */
        void takeSum(Row w, Operator equation) {
            for (int i = 0; i <= U_TOP; i++) {
                u.set(i, w.get(i) - (long) HALF * equation.first.get(i));
            }
        }

        /**
         * Makes P the one polynomial of degree d that can hold, w being m at power n first. At the
         * power k + n - 1 the number that P has at k counts 2 m (k - d) times, and none below k
         * counts, so that the powers from d - 1 down give each number of P.
         */
        void solve(int d, int m, int n) {
            takePower(d);
            for (int k = d - 1; k >= 0; k--) {
                int factor = Numbers.of(2L * m * (d - k));
                p.set(k, (long) turned.allTerms(p, k + n - 1) * Numbers.inverse(factor));
            }
        }
    }

    /** All that is told of an equation. */
    private static final class Study {
        final Row rest = new Row(G_TOP);
        int kindFound = REST_ZERO;
        int triedOfLess = 0;
        int triedOfGreater = 0;
        int count = 0;
        private final Row w = new Row(U_TOP);
        private final Pair earlier = new Pair();
        private final Pair later = new Pair();

        boolean hasPair(int k) {
            return k >= 0 && k < count;
        }

        Pair pair(int k) {
            return k == 0 ? earlier : later;
        }

        void begin(Operator equation) {
            fillRest(equation);
            count = 0;
            int top = rest.top();
            int less = Numbers.lessRoot(rest.get(top));
            kindFound = top < 0 ? REST_ZERO : top % 2 != 0 ? ODD_DEGREE : less < 0 ? NO_SQUARE : HAS_ROOTS;
            if (kindFound == REST_ZERO) {
                takeBothPlain(equation);
            } else if (kindFound == HAS_ROOTS) {
                triedOfLess = tryRoot(equation, less, top / 2);
                triedOfGreater = tryRoot(equation, PRIME - less, top / 2);
            }
        }

        private void fillRest(Operator equation) {
            Row f = equation.first;
            for (int i = 0; i <= G_TOP; i++) {
                long sum = (long) QUARTER * f.timesAt(f, i) + HALF * f.slopeAt(i);
                rest.set(i, sum - equation.zeroth.get(i));
            }
        }

        /** With REST 0 w must be 0 and P'' 0. */
        private void takeBothPlain(Operator equation) {
            w.wipe();
            for (int power = 0; power < 2; power++) {
                Pair next = pair(power);
                next.takeSum(w, equation);
                next.takePower(power);
            }
            count = 2;
        }

        /** Answers TRIED d of the root m, and takes its ANSWER if there is one. */
        private int tryRoot(Operator equation, int m, int n) {
            fillW(m, n);
            long left = rest.get(n - 1) - w.timesAt(w, n - 1);
            int d = Numbers.of((Numbers.of(left) * (long) Numbers.inverse(m) - n) * HALF);
            if (d <= P_TOP) {
                Pair next = pair(count);
                next.takeSum(w, equation);
                next.turn(equation);
                next.solve(d, m, n);
                count += next.holds() ? 1 : 0;
            }
            return d;
        }

        private void fillW(int m, int n) {
            w.wipe();
            w.set(n, m);
            long perNumber = Numbers.inverse(Numbers.of(2L * m));
            for (int i = n - 1; i >= 0; i--) {
                // With w still 0 at i, its square lacks 2 m w(i) alone at the power n + i.
                w.set(i, (rest.get(n + i) - w.timesAt(w, n + i)) * perNumber);
            }
        }
    }
}
