import java.math.BigInteger;

/**
 * One test for each sentence of the document that names a boundary case, under that sentence. No
 * object is used for more than the 512 calls that the document speaks of.
 */
public final class EdgesTest {
    private static final int PRIME = 32003;
    private static final Class<?> STATE = IllegalStateException.class;
    private static final Class<?> ARGUMENT = IllegalArgumentException.class;
    private static final Class<?> INDEX = IndexOutOfBoundsException.class;
    private static final int[] FAR = {Integer.MIN_VALUE, Integer.MIN_VALUE + 1, -32003, -2, -1, 41, 64, 256,
        32003, 65536, Integer.MAX_VALUE - 1, Integer.MAX_VALUE};
    private static final long[] LONGS = {0, 1, 32002, 32003, 32004, 64005, 64006, -1, -32002, -32003, -32004,
        Integer.MAX_VALUE, Integer.MIN_VALUE, 1L << 31, 1L << 32, -(1L << 32), Long.MAX_VALUE, Long.MAX_VALUE - 1,
        Long.MIN_VALUE, Long.MIN_VALUE + 1};
    private static final int[] INTS = {0, 1, 16001, 32002, 32003, 32004, -1, -32002, -32003, -32004,
        Integer.MAX_VALUE, Integer.MAX_VALUE - 1, Integer.MIN_VALUE, Integer.MIN_VALUE + 1};

    private static String sentence = "";
    private static int wrong = 0;

    private interface Call {
        Object go(OrderTwoCases x);
    }

    /** An equation from which each test makes objects of its own. */
    private static final class Maker {
        private final long[] f;
        private final long[] g;

        Maker(long[] f, long[] g) {
            this.f = f;
            this.g = g;
        }

        OrderTwoCases make() {
            OrderTwoCases x = new OrderTwoCases();
            for (int i = 0; i < f.length; i++) {
                x.put(0, i, f[i]);
            }
            for (int i = 0; i < g.length; i++) {
                x.put(1, i, g[i]);
            }
            return x;
        }
    }

    private static final Maker PLAIN = of(row(), row());
    private static final Maker HIDDEN = of(row(0, 2, 2), row(1, 2, 1, 2, 1));
    private static final Maker AIRY = of(row(), row(0, -1));
    private static final Maker CIRCLE = of(row(), row(1));
    private static final Maker GROWING = of(row(), row(-1));
    private static final Maker TWELVE = of(row(), row(25, 0, -1));
    private static final Maker FULL = of(row(2, 6, 10), row(1, 2, 3, 4, 5));
    // One each of the kinds 0 .. 3, with answers 2, 2, 0, 0, 2, 1 and 0.
    private static final Maker[] ALL = {PLAIN, HIDDEN, AIRY, CIRCLE, GROWING, TWELVE, FULL};
    private static final int[] COUNTS = {2, 2, 0, 0, 2, 1, 0};
    private static final int[] KINDS = {0, 0, 1, 2, 3, 3, 2};

    private static Maker of(long[] f, long[] g) {
        return new Maker(f, g);
    }

    private static Maker hermite(long d) {
        return of(row(), row(2 * d + 1, 0, -1));
    }

    private static long[] row(long... numbers) {
        return numbers;
    }

    private static int number(long v) {
        return BigInteger.valueOf(v).mod(BigInteger.valueOf(PRIME)).intValue();
    }

    private static int over(long v, long divisor) {
        BigInteger prime = BigInteger.valueOf(PRIME);
        return BigInteger.valueOf(divisor).modInverse(prime).multiply(BigInteger.valueOf(v)).mod(prime).intValue();
    }

    private static void says(String words) {
        sentence = words;
    }

    private static void fault(String what) {
        wrong++;
        if (wrong <= 60) {
            System.out.println("\"" + sentence + "\": " + what);
        }
    }

    private static void due(String what, Object got, Object want) {
        if (!want.equals(got)) {
            fault(what + " answered " + got + ", due is " + want);
        }
    }

    private static Object outcome(OrderTwoCases x, Call call) {
        try {
            return call.go(x);
        } catch (RuntimeException e) {
            return e.getClass();
        }
    }

    /** All that an object tells, in some 120 calls. */
    private static String picture(OrderTwoCases x) {
        StringBuilder all = new StringBuilder();
        for (int which = 0; which <= 2; which++) {
            for (int i = 0; i <= (which == 0 ? 2 : 4); i++) {
                all.append(x.at(which, i)).append(' ');
            }
        }
        all.append("kind ").append(x.kind());
        if (x.kind() == 3) {
            all.append(" tried ").append(x.tried(0)).append(' ').append(x.tried(1));
        }
        all.append(" series ").append(x.series(3, 5, 7)).append(' ').append(x.series(-2, 9, 40));
        for (int k = 0; k < x.answers(); k++) {
            all.append(" answer ").append(x.degree(k));
            for (int i = 0; i <= 12; i++) {
                all.append(' ').append(x.polynomial(k, i));
            }
            all.append(" u ").append(x.slope(k, 0)).append(' ').append(x.slope(k, 1)).append(' ').append(x.slope(k, 2));
            all.append(" line ").append(x.answer(k, 0)).append(' ').append(x.answer(k, 40));
        }
        return all.toString();
    }

    /** The call throws just that class, and changes nothing, on a new object and on one asked before. */
    private static void refused(String what, Maker maker, Class<?> want, Call call) {
        String kept = picture(maker.make());
        OrderTwoCases fresh = maker.make();
        due(what, outcome(fresh, call), want);
        due(what + ", then all", picture(fresh), kept);
        OrderTwoCases used = maker.make();
        picture(used);
        due(what + " again", outcome(used, call), want);
        due(what + " again, then all", picture(used), kept);
    }

    private static void dueRow(String what, OrderTwoCases x, int which, long... want) {
        for (int i = 0; i < want.length; i++) {
            due(what + " at(" + which + ", " + i + ")", x.at(which, i), number(want[i]));
        }
    }

    private static void dueAnswer(String what, OrderTwoCases x, int k, long[] u, long[] p) {
        due(what + " degree(" + k + ")", x.degree(k), p.length - 1);
        for (int i = 0; i <= 12; i++) {
            due(what + " polynomial(" + k + ", " + i + ")", x.polynomial(k, i), i < p.length ? number(p[i]) : 0);
        }
        for (int i = 0; i <= 2; i++) {
            due(what + " slope(" + k + ", " + i + ")", x.slope(k, i), number(u[i]));
        }
    }

    // What it is.

    private static void callsUpToTheLast() {
        says("An object is used for at most 512 calls after it has been made");
        Call[] last = {x -> x.answers(), x -> x.degree(0), x -> x.polynomial(0, 12), x -> x.kind(), x -> x.tried(1),
            x -> x.at(2, 2), x -> x.put(1, 4, 1), x -> x.series(7, 0, 0), x -> x.slope(0, 1),
            x -> x.proves(0, 0, 0, 0, 0, 0), x -> x.answer(0, 40), x -> x.put(2, 0, 0), x -> x.degree(1)};
        for (int i = 0; i < last.length; i++) {
            OrderTwoCases x = new OrderTwoCases();
            for (int call = 1; call <= 508; call++) {
                due("call " + call, outcome(x, fillerOf(call)), fillerDue(call));
            }
            x.clear();
            x.put(1, 0, 25);
            x.put(1, 2, -1);
            due("last call " + i, outcome(x, last[i]), outcome(TWELVE.make(), last[i]));
        }
    }

    private static Call fillerOf(int call) {
        switch (call % 4) {
            case 0:
                return x -> x.put(1, 3, call);
            case 1:
                return x -> x.at(1, 3);
            case 2:
                return x -> x.at(1, 5);
            default:
                return x -> x.kind();
        }
    }

    private static Object fillerDue(int call) {
        switch (call % 4) {
            case 0:
                return true;
            case 1:
                return call - 1;
            case 2:
                return INDEX;
            default:
                return call == 3 ? 0 : 1;
        }
    }

    // Terms.

    private static void numbersOfLongs() {
        says("NUMBERS are modulo 32003, 0 .. 32002.");
        for (long v : LONGS) {
            OrderTwoCases x = new OrderTwoCases();
            due("put " + v, x.put(0, 2, v), number(v) != 0);
            due("put " + v + " again", x.put(0, 2, v), false);
            due("put its number " + v, x.put(0, 2, number(v)), false);
            due("at after " + v, x.at(0, 2), number(v));
            due("put g " + v, x.put(1, 4, v), number(v) != 0);
            due("at of g after " + v, x.at(1, 4), number(v));
            due("series a " + v, x.series(v, 0, 0), number(v));
            due("series b " + v, x.series(0, v, 1), number(v));
            due("series, both " + v, GROWING.make().series(v, v, 2), over(number(v), 2));
            OrderTwoCases line = of(row(0, 1), row(0, 0, 1)).make();
            line.move(v);
            dueRow("move " + v, line, 0, number(v), 1, 0);
            dueRow("move " + v, line, 1, (long) number(v) * number(v), 2L * number(v), 1, 0, 0);
        }
        OrderTwoCases x = new OrderTwoCases();
        x.put(1, 0, 1);
        due("32002 is another number than 1", x.put(1, 0, 32002), true);
        due("0 is 32003", x.put(1, 0, 32003), true);
        due("0 is 0", x.at(1, 0), 0);
    }

    private static void numbersOfInts() {
        says("NUMBERS are modulo 32003, 0 .. 32002.");
        for (int v : INTS) {
            long square = -(long) number(v) * number(v);
            due("u0 " + v, of(row(), row(square)).make().proves(v, 0, 0, 1, 0, 0), true);
            due("u1 " + v, of(row(), row(-number(v), 0, square)).make().proves(0, v, 0, 1, 0, 0), true);
            due("u2 " + v, of(row(), row(0, -2L * number(v), 0, 0, square)).make().proves(0, 0, v, 1, 0, 0), true);
            due("u0 past " + v, of(row(), row(square - 1)).make().proves(v, 0, 0, 1, 0, 0), false);
            OrderTwoCases plain = new OrderTwoCases();
            due("p0 and p1 " + v, plain.proves(0, 0, 0, v, v, 0), true);
            due("p2 " + v, plain.proves(0, 0, 0, 0, 0, v), number(v) == 0);
            due("p0 of g " + v, CIRCLE.make().proves(0, 0, 0, v, 0, 0), number(v) == 0);
            due("p1 of g " + v, CIRCLE.make().proves(0, 0, 0, 0, v, 0), number(v) == 0);
        }
    }

    private static void degreesOfTheEquation() {
        says("polynomials f, of a degree up to 2, and g, up to 4, in x");
        OrderTwoCases x = new OrderTwoCases();
        for (int i = 0; i <= 2; i++) {
            due("put f " + i, x.put(0, i, 10 + i), true);
        }
        for (int i = 0; i <= 4; i++) {
            due("put g " + i, x.put(1, i, 20 + i), true);
        }
        dueRow("f", x, 0, 10, 11, 12);
        dueRow("g", x, 1, 20, 21, 22, 23, 24);
        refused("f has no power 3", FULL, INDEX, y -> y.put(0, 3, 1));
        refused("g has no power 5", FULL, INDEX, y -> y.put(1, 5, 1));
    }

    private static void slopes() {
        says("slopes (') are those of polynomials, term by term");
        dueRow("no slope of a constant", of(row(4), row()).make(), 2, 4, 0, 0, 0, 0);
        dueRow("slope of x", of(row(0, 4), row()).make(), 2, 2, 0, 4, 0, 0);
        dueRow("slope of x x", of(row(0, 0, 4), row()).make(), 2, 0, 4, 0, 0, 4);
        due("slope of u", of(row(), row(-7 - 25, -6 - 70, -49 - 30, -42, -9)).make().proves(5, 7, 3, 1, 0, 0), true);
        due("slope of P", of(row(0, -2), row(2)).make().proves(0, 0, 0, 0, 5, 0), true);
        due("both slopes of P", of(row(0, -2), row(4)).make().proves(0, 0, 0, 1, 0, -2), true);
    }

    private static void degreeOfTheRest() {
        says("Its REST r is f f through 4 and f' through 2, less g: a polynomial of a degree up to 4.");
        dueRow("all powers", FULL.make(), 2, 3, 14, 16, 26, 20);
        dueRow("a quarter", of(row(0, 0, 1), row()).make(), 2, 0, 1, 0, 0, over(1, 4));
        dueRow("halves of odd numbers", of(row(1, 1), row()).make(), 2, over(3, 4), over(1, 2), over(1, 4), 0, 0);
        dueRow("less g", of(row(), row(1, 2, 3, 4, 5)).make(), 2, -1, -2, -3, -4, -5);
        dueRow("power 4 goes away", of(row(0, 0, 2), row(0, 0, 0, 0, 1)).make(), 2, 0, 2, 0, 0, 0);
        refused("the REST has no power 5", FULL, INDEX, y -> y.at(2, 5));
    }

    private static void degreesOfU() {
        says("An ANSWER is two polynomials, u, of a degree up to 2");
        dueAnswer("u of degree 2", of(row(), row(0, -2, 0, 0, -1)).make(), 0, row(0, 0, 1), row(1));
        dueAnswer("u of degree 1", hermite(0).make(), 0, row(0, -1, 0), row(1));
        dueAnswer("u of degree 0", GROWING.make(), 1, row(-1, 0, 0), row(1));
        dueAnswer("u 0", of(row(0, 0, -2), row()).make(), 0, row(0, 0, 0), row(1));
        // w = x x + x/2 + 1 and P = x x + 1 leave 6 x + 5/2 of the REST.
        long[] g = row(-over(7, 2), -7, -over(9, 4), -1, -1);
        dueAnswer("u with all powers", of(row(), g).make(), 0, row(1, over(1, 2), 1), row(1, 0, 1));
    }

    private static void degreesOfP() {
        says("and P, of a degree d from 0 to 12");
        long[] he12 = row(10395, 0, -62370, 0, 51975, 0, -13860, 0, 1485, 0, -66, 0, 1);
        long[] turned = row(10395, 0, 62370, 0, 51975, 0, 13860, 0, 1485, 0, 66, 0, 1);
        // Half of 1 is the greater root, 16002, half of -1 the less one.
        dueAnswer("12", of(row(0, 1), row(-12)).make(), 0, row(0, 0, 0), turned);
        dueAnswer("12, the less root", of(row(0, -1), row(12)).make(), 0, row(0, 0, 0), he12);
        dueAnswer("0", of(row(0, 1), row(0)).make(), 0, row(0, 0, 0), row(1));
        dueAnswer("0, the less root", of(row(0, -1), row(0)).make(), 0, row(0, 0, 0), row(1));
        due("13 is too large", of(row(0, 1), row(-13)).make().answers(), 0);
        due("13 is too large, the less root", of(row(0, -1), row(13)).make().answers(), 0);
        due("TRIED 13", of(row(0, 1), row(-13)).make().tried(1), 13);
        due("TRIED 13, the less root", of(row(0, -1), row(13)).make().tried(0), 13);
        // With REST x^4 TRIED is -1 for both.
        due("-1 is too small", of(row(), row(0, 0, 0, 0, -1)).make().answers(), 0);
        for (int d = -13; d <= 12; d++) {
            due("degree for " + d, hermite(d).make().degree(0), d >= 0 ? d : -1 - d);
        }
        for (int d : new int[] {-16001, -15, -14, 13, 14, 15, 16, 17, 32, 64, 16000, 16001}) {
            due("no degree for " + d, hermite(d).make().answers(), 0);
        }
    }

    private static void highestNumberOfP() {
        says("with 1 at its highest power");
        for (int d = 0; d <= 12; d++) {
            OrderTwoCases x = hermite(d).make();
            due("1 at " + d, x.polynomial(0, d), 1);
            for (int i = d + 1; i <= 12; i++) {
                due("0 above " + d, x.polynomial(0, i), 0);
            }
        }
        due("1 for REST 0", PLAIN.make().polynomial(0, 0), 1);
        due("1 for REST 0", PLAIN.make().polynomial(1, 1), 1);
    }

    private static void answersOfRestZero() {
        says("If the REST is 0, those with P 1 and P x count alone, in this order");
        for (Maker maker : new Maker[] {PLAIN, HIDDEN, of(row(2), row(1)), of(row(0, 0, 2), row(0, 2, 0, 0, 1))}) {
            OrderTwoCases x = maker.make();
            long[] u = row(-over(x.at(0, 0), 2), -over(x.at(0, 1), 2), -over(x.at(0, 2), 2));
            due("kind", x.kind(), 0);
            due("answers", x.answers(), 2);
            dueAnswer("P 1", x, 0, u, row(1));
            dueAnswer("P x", x, 1, u, row(0, 1));
            // P = x + 1 solves it too, but does not count.
            due("x + 1 proves", x.proves((int) u[0], (int) u[1], (int) u[2], 1, 1, 0), true);
        }
    }

    private static void orderOfAnswers() {
        says("otherwise all, those first for which u and half of f have, together, a less number");
        dueAnswer("1 before 32002", GROWING.make(), 0, row(1, 0, 0), row(1));
        dueAnswer("1 before 32002", GROWING.make(), 1, row(-1, 0, 0), row(1));
        // Roots 3 and 32000: u is 32001 first, 31995 then.
        OrderTwoCases turned = of(row(10), row(16)).make();
        dueAnswer("u greater", turned, 0, row(-2, 0, 0), row(1));
        dueAnswer("u greater", turned, 1, row(-8, 0, 0), row(1));
        OrderTwoCases middle = of(row(), row(-over(1, 4))).make();
        dueAnswer("16001 before 16002", middle, 0, row(16001, 0, 0), row(1));
        dueAnswer("16001 before 16002", middle, 1, row(16002, 0, 0), row(1));
        OrderTwoCases withF = of(row(0, 2, 4), row(1 - 9, 4, 1, 4, 4)).make();
        dueRow("the REST is 9", withF, 2, 9, 0, 0, 0, 0);
        dueAnswer("all of f", withF, 0, row(3, -1, -2), row(1));
        dueAnswer("all of f", withF, 1, row(-3, -1, -2), row(1));
    }

    private static void atMostTwo() {
        says("(There are at most two.)");
        for (int i = 0; i < ALL.length; i++) {
            due("answers of " + i, ALL[i].make().answers(), COUNTS[i]);
            refused("a third of " + i, ALL[i], INDEX, x -> x.degree(2));
        }
    }

    private static void kinds() {
        says("KIND: 0 if the REST is 0");
        for (int i = 0; i < ALL.length; i++) {
            due("kind of " + i, ALL[i].make().kind(), KINDS[i]);
        }
        due("f and g hide one another", of(row(0, 0, 2), row(0, 2, 0, 0, 1)).make().kind(), 0);
        due("all but one number", of(row(0, 0, 2), row(1, 2, 0, 0, 1)).make().kind(), 2);
        says("1 if its degree is odd");
        for (long v : row(1, -1, 2, -2, 4, -4)) {
            due("degree 1 with " + v, of(row(), row(3, v)).make().kind(), 1);
            due("degree 3 with " + v, of(row(), row(3, 2, 1, v)).make().kind(), 1);
            due("degree 3 below f f with " + v, of(row(0, 0, 2), row(0, 0, 0, v, 1)).make().kind(), 1);
        }
        says("2 if its highest number is no square of a NUMBER; 3 otherwise");
        // 32003 is 3 modulo 4: v is a square if -v is none.
        for (long v : row(1, 4, 9, 25, 16001L * 16001)) {
            due("degree 0, square " + v, of(row(), row(-v)).make().kind(), 3);
            due("degree 0, no square " + v, of(row(), row(v)).make().kind(), 2);
            due("degree 2, square " + v, of(row(), row(1, 1, -v)).make().kind(), 3);
            due("degree 2, no square " + v, of(row(), row(-1, -1, v)).make().kind(), 2);
            due("degree 4, square " + v, of(row(), row(1, 1, 1, 1, -v)).make().kind(), 3);
            due("degree 4, no square " + v, of(row(), row(-1, -1, -1, -1, v)).make().kind(), 2);
        }
    }

    private static void roots() {
        says("the ROOTS are the two NUMBERS whose square is the REST's highest number, the less one first");
        int[] less = new int[PRIME];
        for (int m = 16001; m >= 1; m--) {
            less[number((long) m * m)] = m;
        }
        // What is left of v x x + 1 is 1: TRIED tells the root.
        for (int v = 1; v < PRIME; v++) {
            OrderTwoCases x = of(row(), row(-1, 0, -v)).make();
            due("kind of " + v, x.kind(), less[v] > 0 ? 3 : 2);
            if (less[v] > 0) {
                due("the less root of " + v, x.tried(0), over(over(1, less[v]) - 1, 2));
                due("the greater root of " + v, x.tried(1), over(over(1, PRIME - less[v]) - 1, 2));
            }
        }
    }

    private static void sums() {
        says("w (of a ROOT m) .. for which the REST less w w has a degree below n");
        // (3 x + 5)^2 + 7, and n 1: 7 is left.
        OrderTwoCases one = of(row(), row(-32, -30, -9)).make();
        due("n 1, less", one.tried(0), over(over(7, 3) - 1, 2));
        due("n 1, greater", one.tried(1), over(over(-7, 3) - 1, 2));
        // (3 x x + 5 x + 2)^2 + 7 x + 4, and n 2: what is left at power 0 does not count.
        for (long low : row(0, 4, 32002)) {
            OrderTwoCases two = of(row(), row(-4 - low, -27, -37, -30, -9)).make();
            due("n 2, less", two.tried(0), over(over(7, 3) - 2, 2));
            due("n 2, greater", two.tried(1), over(over(-7, 3) - 2, 2));
        }
        dueAnswer("w with a power 0", of(row(), row(-25 - 3, -30, -9)).make(), 0, row(5, 3, 0), row(1));
    }

    private static void triedEdges() {
        says("TRIED d is what that has at the power n - 1 (0 for n 0) through m, less n, all through 2.");
        for (long m : row(1, 2, 3, 16001)) {
            OrderTwoCases x = of(row(), row(-m * m)).make();
            due("n 0, less", x.tried(0), 0);
            due("n 0, greater", x.tried(1), 0);
        }
        OrderTwoCases x = of(row(), row(0, 0, -1)).make();
        due("n 1, nothing left, less", x.tried(0), 16001);
        due("n 1, nothing left, greater", x.tried(1), 16001);
        OrderTwoCases y = of(row(), row(0, 0, 0, 0, -1)).make();
        due("n 2, nothing left, less", y.tried(0), 32002);
        due("n 2, nothing left, greater", y.tried(1), 32002);
        for (int d : new int[] {0, 1, 12, 13, 16000, 16001, 32001, 32002}) {
            due("the greater for " + d, hermite(d).make().tried(1), d);
            due("the less for " + d, hermite(d).make().tried(0), number(-1 - d));
        }
    }

    private static void seriesEdges() {
        says("The SERIES from a and b has a at power 0, b at power 1, and solves the EQUATION (up to 40).");
        OrderTwoCases full = FULL.make();
        due("a", full.series(8, 9, 0), 8);
        due("b", full.series(8, 9, 1), 9);
        due("power 2", full.series(8, 9, 2), over(-2 * 9 - 8, 2));
        // y'' + x x y' = 0: from power k to k + 3; y'' + x^4 y = 0: to k + 6; each ends at the last power.
        due("f x x to 40", of(row(0, 0, 1), row()).make().series(0, 1, 40), steps(1, 40, 3, true));
        due("f x x to 39", of(row(0, 0, 1), row()).make().series(0, 1, 39), 0);
        due("g x^4 to 37", of(row(), row(0, 0, 0, 0, 1)).make().series(0, 1, 37), steps(1, 37, 6, false));
        due("g x^4 to 36", of(row(), row(0, 0, 0, 0, 1)).make().series(1, 0, 36), steps(0, 36, 6, false));
        due("g x x to 40", of(row(), row(0, 0, 1)).make().series(1, 0, 40), steps(0, 40, 4, false));
        due("g to 40", CIRCLE.make().series(1, 0, 40), steps(0, 40, 2, false));
        due("f to 40", of(row(1), row()).make().series(0, 1, 40), steps(1, 40, 1, true));
        due("0 and 0", full.series(0, 0, 40), 0);
        due("a line", PLAIN.make().series(5, 6, 2), 0);
        refused("power 41", FULL, INDEX, x -> x.series(1, 2, 41));
    }

    /** The number at last if the one at first is 1 and each step divides by its place, with a sign. */
    private static int steps(int first, int last, int step, boolean ofSlope) {
        int v = 1;
        for (int k = first; k < last; k += step) {
            int next = k + step;
            v = over(-(long) v * (ofSlope ? k : 1), (long) next * (next - 1));
        }
        return v;
    }

    private static void wrongIndices() {
        says("IndexOutOfBoundsException: no such ANSWER, power.");
        for (int w : FAR) {
            refused("put f " + w, FULL, INDEX, x -> x.put(0, w, 1));
            refused("put g " + w, FULL, INDEX, x -> x.put(1, w, 1));
            for (int which = 0; which <= 2; which++) {
                int row = which;
                refused("at " + which + " " + w, FULL, INDEX, x -> x.at(row, w));
            }
            refused("series " + w, TWELVE, INDEX, x -> x.series(1, 1, w));
            refused("degree " + w, GROWING, INDEX, x -> x.degree(w));
            refused("polynomial of " + w, GROWING, INDEX, x -> x.polynomial(w, 0));
            refused("polynomial at " + w, GROWING, INDEX, x -> x.polynomial(1, w));
            refused("slope of " + w, GROWING, INDEX, x -> x.slope(w, 0));
            refused("slope at " + w, GROWING, INDEX, x -> x.slope(1, w));
            refused("answer of " + w, GROWING, INDEX, x -> x.answer(w, 0));
            refused("answer at " + w, GROWING, INDEX, x -> x.answer(1, w));
            refused("both wrong " + w, TWELVE, INDEX, x -> x.polynomial(w, w));
        }
    }

    private static void noSuchAnswer() {
        says("IndexOutOfBoundsException: no such ANSWER, power.");
        for (int i = 0; i < ALL.length; i++) {
            for (int k = -1; k <= 3; k++) {
                int which = k;
                if (k < 0 || k >= COUNTS[i]) {
                    refused("degree " + k + " of " + i, ALL[i], INDEX, x -> x.degree(which));
                    refused("polynomial " + k + " of " + i, ALL[i], INDEX, x -> x.polynomial(which, 0));
                    refused("slope " + k + " of " + i, ALL[i], INDEX, x -> x.slope(which, 0));
                    refused("answer " + k + " of " + i, ALL[i], INDEX, x -> x.answer(which, 0));
                } else {
                    due("degree " + k + " of " + i, ALL[i].make().degree(k) >= 0, true);
                }
            }
        }
        says("no such ANSWER, after there has been one");
        OrderTwoCases x = GROWING.make();
        x.degree(1);
        x.put(1, 0, 1);
        due("gone", outcome(x, y -> y.degree(0)), INDEX);
        x.put(1, 0, 25);
        x.put(1, 2, -1);
        due("one of two is back", outcome(x, y -> y.degree(0)), 12);
        due("the second is not", outcome(x, y -> y.degree(1)), INDEX);
    }

    private static void whichIsThrown() {
        says("Of several the one that stands first behind \"throws\" is thrown; nothing changes.");
        for (int w : FAR) {
            for (int power : FAR) {
                due("put " + w + " " + power, outcome(FULL.make(), x -> x.put(w, power, 1)), ARGUMENT);
                due("at " + w + " " + power, outcome(FULL.make(), x -> x.at(w, power)), ARGUMENT);
            }
            refused("put which " + w, FULL, ARGUMENT, x -> x.put(w, -1, 1));
            refused("at which " + w, FULL, ARGUMENT, x -> x.at(w, -1));
            refused("tried " + w + ", kind 0", PLAIN, STATE, x -> x.tried(w));
            refused("tried " + w + ", kind 1", AIRY, STATE, x -> x.tried(w));
            refused("tried " + w + ", kind 2", CIRCLE, STATE, x -> x.tried(w));
        }
        refused("put(2, 5, 1)", FULL, ARGUMENT, x -> x.put(2, 5, 1));
        refused("at(3, 5)", FULL, ARGUMENT, x -> x.at(3, 5));
    }

    // The promises.

    private static void newObject() {
        says("1: f and g are 0.");
        dueRow("f", new OrderTwoCases(), 0, 0, 0, 0);
        dueRow("g", new OrderTwoCases(), 1, 0, 0, 0, 0, 0);
        OrderTwoCases first = FULL.make();
        due("another object", picture(new OrderTwoCases()), picture(PLAIN.make()));
        dueRow("the first is as it was", first, 1, 1, 2, 3, 4, 5);
    }

    private static void putEdges() {
        says("2: The number at a power in f (which 0) or g (1): whether it is another one.");
        for (int which = 0; which <= 1; which++) {
            for (int power = 0; power <= (which == 0 ? 2 : 4); power++) {
                OrderTwoCases x = new OrderTwoCases();
                due("0 on 0", x.put(which, power, 0), false);
                due("32003 on 0", x.put(which, power, 32003), false);
                due("1 on 0", x.put(which, power, 1), true);
                due("1 on 1", x.put(which, power, 1), false);
                due("-32002 on 1", x.put(which, power, -32002), false);
                due("32002 on 1", x.put(which, power, 32002), true);
                due("-1 on 32002", x.put(which, power, -1), false);
                due("0 on 32002", x.put(which, power, 0), true);
                due("nothing else", picture(x), picture(PLAIN.make()));
                x.put(which, power, 9);
                for (int row = 0; row <= 1; row++) {
                    for (int i = 0; i <= (row == 0 ? 2 : 4); i++) {
                        due("9 there alone", x.at(row, i), row == which && i == power ? 9 : 0);
                    }
                }
            }
        }
        says("2: IllegalArgumentException: another which.");
        for (int w : FAR) {
            refused("which " + w, FULL, ARGUMENT, x -> x.put(w, 0, 1));
        }
        refused("which 2", FULL, ARGUMENT, x -> x.put(2, 0, 1));
        says("2: IndexOutOfBoundsException: the power can't be in it.");
        refused("f, 3", FULL, INDEX, x -> x.put(0, 3, 1));
        refused("f, 4", FULL, INDEX, x -> x.put(0, 4, 1));
        refused("f, -1", FULL, INDEX, x -> x.put(0, -1, 1));
        refused("f, 3, what is there", PLAIN, INDEX, x -> x.put(0, 3, 0));
        refused("g, 5", FULL, INDEX, x -> x.put(1, 5, 1));
        refused("g, -1", FULL, INDEX, x -> x.put(1, -1, 1));
    }

    private static void putIsSeen() {
        says("2: The number at a power, as all other calls see it at once");
        for (Maker maker : ALL) {
            OrderTwoCases x = new OrderTwoCases();
            for (int i = 0; i < 3; i++) {
                x.kind();
                x.put(0, i, i < maker.f.length ? maker.f[i] : 0);
            }
            for (int i = 0; i < 5; i++) {
                x.answers();
                x.put(1, i, i < maker.g.length ? maker.g[i] : 0);
            }
            due("step by step", picture(x), picture(maker.make()));
        }
    }

    private static void atEdges() {
        says("3: That number; of the REST for which 2 (powers 0 .. 4).");
        OrderTwoCases x = FULL.make();
        dueRow("f", x, 0, 2, 6, 10);
        dueRow("g", x, 1, 1, 2, 3, 4, 5);
        dueRow("the REST", x, 2, 3, 14, 16, 26, 20);
        dueRow("the REST of a new object", new OrderTwoCases(), 2, 0, 0, 0, 0, 0);
        for (int which = 0; which <= 2; which++) {
            int row = which;
            refused("below", FULL, INDEX, y -> y.at(row, -1));
            refused("above", FULL, INDEX, y -> y.at(row, row == 0 ? 3 : 5));
        }
        refused("above f, in g", FULL, INDEX, y -> y.at(0, 4));
        for (int w : FAR) {
            refused("which " + w, FULL, ARGUMENT, y -> y.at(w, 0));
        }
        refused("which 3", FULL, ARGUMENT, y -> y.at(3, 0));
    }

    private static void moveEdges() {
        says("4: The EQUATION becomes that with x and a number in place of x.");
        for (Maker maker : ALL) {
            for (long by : row(0, 32003, -32003, 32003L * 1000003)) {
                OrderTwoCases x = maker.make();
                x.move(by);
                due("by 0", picture(x), picture(maker.make()));
            }
            for (long by : LONGS) {
                OrderTwoCases x = maker.make();
                x.kind();
                x.move(by);
                due("kind", x.kind(), maker.make().kind());
                x.move(1);
                x.move(-1 - number(by));
                due("there and back", picture(x), picture(maker.make()));
            }
        }
        OrderTwoCases x = of(row(0, 0, 1), row(0, 0, 0, 0, 1)).make();
        x.move(-1);
        dueRow("highest powers", x, 0, 1, -2, 1);
        dueRow("highest powers", x, 1, 1, -4, 6, -4, 1);
        OrderTwoCases answered = hermite(1).make();
        answered.degree(0);
        answered.move(32002);
        dueAnswer("with its answer", answered, 0, row(1, -1, 0), row(-1, 1));
        OrderTwoCases constant = of(row(7), row(8)).make();
        constant.move(5);
        dueRow("constants stay", constant, 0, 7, 0, 0);
        dueRow("constants stay", constant, 1, 8, 0, 0, 0, 0);
    }

    private static void triedRefused() {
        says("6: IllegalStateException: the KIND isn't 3.");
        for (int i = 0; i < ALL.length; i++) {
            for (int root = 0; root <= 1; root++) {
                int asked = root;
                if (KINDS[i] != 3) {
                    refused("kind " + KINDS[i], ALL[i], STATE, x -> x.tried(asked));
                } else {
                    due("kind 3", outcome(ALL[i].make(), x -> x.tried(asked)) instanceof Integer, true);
                }
            }
        }
        OrderTwoCases x = GROWING.make();
        x.tried(0);
        x.clear();
        due("kind 3 no more", outcome(x, y -> y.tried(0)), STATE);
        says("6: IllegalArgumentException: another ROOT.");
        for (int w : FAR) {
            refused("root " + w, TWELVE, ARGUMENT, y -> y.tried(w));
        }
        refused("root 2", TWELVE, ARGUMENT, y -> y.tried(2));
    }

    private static void answersCounted() {
        says("7: How many ANSWERS there are.");
        due("none, odd", AIRY.make().answers(), 0);
        due("none, no square", CIRCLE.make().answers(), 0);
        due("none, TRIED is no degree", of(row(), row(2, 0, -1)).make().answers(), 0);
        due("none, TRIED 0 does not solve it", of(row(), row(1, -2, 0, 0, -1)).make().answers(), 0);
        due("none, TRIED 1 does not solve it", of(row(), row(-1, -4, 0, 0, -1)).make().answers(), 0);
        due("one, TRIED 0", of(row(), row(0, -2, 0, 0, -1)).make().answers(), 1);
        due("one, TRIED 1", of(row(), row(0, -4, 0, 0, -1)).make().answers(), 1);
        due("one, of degree 12", TWELVE.make().answers(), 1);
        due("two, constant", GROWING.make().answers(), 2);
        due("two, REST 0", PLAIN.make().answers(), 2);
    }

    private static void powersOfAnAnswer() {
        says("9: The number at a power in an ANSWER's P; powers above 12 aren't there.");
        due("12 in one of degree 12", TWELVE.make().polynomial(0, 12), 1);
        due("12 in one of degree 0", GROWING.make().polynomial(1, 12), 0);
        due("0 in one of degree 12", of(row(0, -1), row(12)).make().polynomial(0, 0), 10395);
        for (Maker maker : new Maker[] {PLAIN, HIDDEN, GROWING, TWELVE}) {
            refused("13", maker, INDEX, x -> x.polynomial(0, 13));
            refused("-1", maker, INDEX, x -> x.polynomial(0, -1));
        }
        says("10: The number at a power in an ANSWER's u; powers above 2 aren't there.");
        due("2 in one of degree 2", of(row(), row(0, -2, 0, 0, -1)).make().slope(0, 2), 1);
        due("2 in one of degree 0", GROWING.make().slope(1, 2), 0);
        due("0 in one of degree 0", GROWING.make().slope(1, 0), 32002);
        for (Maker maker : new Maker[] {PLAIN, HIDDEN, GROWING, TWELVE}) {
            refused("3", maker, INDEX, x -> x.slope(0, 3));
            refused("-1", maker, INDEX, x -> x.slope(0, -1));
        }
    }

    private static void degreeEdges() {
        says("8: The degree of an ANSWER's P.");
        due("0", GROWING.make().degree(0), 0);
        due("0, the second", GROWING.make().degree(1), 0);
        due("0 of REST 0", HIDDEN.make().degree(0), 0);
        due("1 of REST 0", HIDDEN.make().degree(1), 1);
        due("12", TWELVE.make().degree(0), 12);
        due("11, with P 0 at power 0", hermite(11).make().degree(0), 11);
    }

    private static void answerAsSeries() {
        says("12: The number at a power of the SERIES that begins as P times that something");
        long factorial = 1;
        for (int k = 0; k <= 40; k++) {
            factorial = k == 0 ? 1 : factorial * k % PRIME;
            due("growing " + k, GROWING.make().answer(0, k), over(1, factorial));
            due("falling " + k, GROWING.make().answer(1, k), over(k % 2 == 0 ? 1 : -1, factorial));
            due("REST 0, P 1, " + k, PLAIN.make().answer(0, k), k == 0 ? 1 : 0);
            due("REST 0, P x, " + k, PLAIN.make().answer(1, k), k == 1 ? 1 : 0);
        }
        says("12: which has 1 at power 0");
        due("P times 1", of(row(10), row(16)).make().answer(0, 0), 1);
        due("u at power 1", of(row(10), row(16)).make().answer(0, 1), number(-2));
        due("P 0 at power 0", hermite(1).make().answer(0, 0), 0);
        due("P x at power 1", hermite(1).make().answer(0, 1), 1);
        OrderTwoCases moved = hermite(1).make();
        moved.move(5);
        due("both at power 0", moved.answer(0, 0), 5);
        due("both at power 1", moved.answer(0, 1), number(1 - 25));
        due("a polynomial's last power", of(row(0, -1), row(12)).make().answer(0, 12), 1);
        due("a polynomial has ended", of(row(0, -1), row(12)).make().answer(0, 14), 0);
        for (Maker maker : new Maker[] {PLAIN, GROWING, TWELVE}) {
            refused("41", maker, INDEX, x -> x.answer(0, 41));
            refused("-1", maker, INDEX, x -> x.answer(0, -1));
        }
        refused("series 41", TWELVE, INDEX, x -> x.series(0, 0, 41));
        refused("series -1", TWELVE, INDEX, x -> x.series(0, 0, -1));
    }

    private static void provesEdges() {
        says("13: P need not have 1 at its highest power");
        for (int c : new int[] {1, 2, -1, 16001, 32002}) {
            due("times " + c, of(row(0, -2), row(4)).make().proves(0, 0, 0, -c, 0, 2 * c), true);
        }
        says("13: nor be other than 0");
        for (Maker maker : ALL) {
            due("P 0", maker.make().proves(1, 2, 3, 0, 0, 0), true);
            due("P 0 modulo", maker.make().proves(-1, 32002, 7, 32003, -32003, 64006), true);
            due("u and P 0", maker.make().proves(0, 0, 0, 0, 0, 0), true);
        }
        says("13: Whether polynomials u and P .. make what must be 0.");
        for (int power = 0; power <= 4; power++) {
            long[] g = new long[5];
            g[power] = 1;
            due("g at " + power, of(row(), g).make().proves(0, 0, 0, 1, 0, 0), false);
            due("g at " + power + ", P x x", of(row(), g).make().proves(0, 0, 0, 0, 0, 1), false);
        }
        due("highest power of u u", PLAIN.make().proves(0, 0, 1, 0, 0, 1), false);
        due("f u", of(row(0, 0, -1), row(0, -2)).make().proves(0, 0, 1, 4, 0, 0), true);
        due("not f u", of(row(0, 0, -1), row(0, -2)).make().proves(0, 0, 2, 4, 0, 0), false);
        // u = x x + x/2 + 1, P = x x + 1, and the numbers of both through others.
        long[] g = row(-over(7, 2), -7, -over(9, 4), -1, -1);
        due("all powers", of(row(), g).make().proves(1, over(1, 2), 1, 3, 0, 3), true);
        due("all powers, u0", of(row(), g).make().proves(2, over(1, 2), 1, 3, 0, 3), false);
        due("all powers, u1", of(row(), g).make().proves(1, over(1, 2) + 1, 1, 3, 0, 3), false);
        due("all powers, u2", of(row(), g).make().proves(1, over(1, 2), 2, 3, 0, 3), false);
        due("all powers, p0", of(row(), g).make().proves(1, over(1, 2), 1, 4, 0, 3), false);
        due("all powers, p1", of(row(), g).make().proves(1, over(1, 2), 1, 3, 1, 3), false);
        due("all powers, p2", of(row(), g).make().proves(1, over(1, 2), 1, 3, 0, 4), false);
        for (Maker maker : ALL) {
            OrderTwoCases x = maker.make();
            x.proves(1, 2, 3, 4, 5, 6);
            due("asking changes nothing", picture(x), picture(maker.make()));
        }
    }

    private static void cleared() {
        says("14: f and g are 0.");
        for (Maker maker : ALL) {
            OrderTwoCases asked = maker.make();
            picture(asked);
            asked.clear();
            due("after being asked", picture(asked), picture(new OrderTwoCases()));
            OrderTwoCases x = maker.make();
            x.clear();
            x.clear();
            due("twice", picture(x), picture(new OrderTwoCases()));
        }
        OrderTwoCases x = FULL.make();
        x.clear();
        due("another one than before", x.put(0, 2, 10), true);
        due("0 on 0", x.put(1, 4, 0), false);
    }

    public static void main(String[] args) {
        callsUpToTheLast();
        numbersOfLongs();
        numbersOfInts();
        degreesOfTheEquation();
        slopes();
        degreeOfTheRest();
        degreesOfU();
        degreesOfP();
        highestNumberOfP();
        answersOfRestZero();
        orderOfAnswers();
        atMostTwo();
        kinds();
        roots();
        sums();
        triedEdges();
        seriesEdges();
        wrongIndices();
        noSuchAnswer();
        whichIsThrown();
        newObject();
        putEdges();
        putIsSeen();
        atEdges();
        moveEdges();
        triedRefused();
        answersCounted();
        degreeEdges();
        powersOfAnAnswer();
        answerAsSeries();
        provesEdges();
        cleared();
        System.out.println(wrong == 0 ? "all answers are as due" : wrong + " answers are not as due");
        if (wrong != 0) {
            System.exit(1);
        }
    }
}
