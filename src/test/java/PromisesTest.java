import java.util.Arrays;

/** Each promise of the document by hand-made cases; its boundary cases one by one are in EdgesTest. */
public final class PromisesTest {
    private static final int PRIME = 32003;
    private static int wrong = 0;

    private interface Call {
        long go();
    }

    private static void due(String what, long got, long want) {
        if (got != want) {
            wrong++;
            System.out.println(what + " answered " + got + ", due is " + want);
        }
    }

    private static void due(String what, boolean got, boolean want) {
        due(what, got ? 1 : 0, want ? 1 : 0);
    }

    /** The call must throw just that class and leave the object as it was. */
    private static void throwsAndKeeps(String what, OrderTwoCases x, Class<?> want, Call call) {
        String before = state(x);
        Class<?> got = null;
        try {
            call.go();
        } catch (RuntimeException e) {
            got = e.getClass();
        }
        if (got != want) {
            wrong++;
            System.out.println(what + " threw " + got + ", due is " + want);
        }
        if (!before.equals(state(x))) {
            wrong++;
            System.out.println(what + " changed the object");
        }
    }

    private static String state(OrderTwoCases x) {
        int[] all = new int[15];
        for (int i = 0; i <= 4; i++) {
            all[i] = i <= 2 ? x.at(0, i) : 0;
            all[5 + i] = x.at(1, i);
            all[10 + i] = x.at(2, i);
        }
        return Arrays.toString(all) + x.kind() + " " + x.answers();
    }

    private static OrderTwoCases equation(long[] f, long[] g) {
        OrderTwoCases x = new OrderTwoCases();
        for (int i = 0; i < f.length; i++) {
            x.put(0, i, f[i]);
        }
        for (int i = 0; i < g.length; i++) {
            x.put(1, i, g[i]);
        }
        return x;
    }

    private static long[] row(long... numbers) {
        return numbers;
    }

    private static int number(long v) {
        return (int) Math.floorMod(v, (long) PRIME);
    }

    private static int over(long v, long divisor) {
        for (int q = 0; q < PRIME; q++) {
            if (number(q * divisor) == number(v)) {
                return q;
            }
        }
        throw new AssertionError("no inverse");
    }

    private static void dueRow(String what, OrderTwoCases x, int which, long... want) {
        for (int i = 0; i < want.length; i++) {
            due(what + " at(" + which + ", " + i + ")", x.at(which, i), number(want[i]));
        }
    }

    private static void dueAnswer(String what, OrderTwoCases x, int k, long[] u, long[] p) {
        due(what + " degree(" + k + ")", x.degree(k), p.length - 1);
        for (int i = 0; i <= 12; i++) {
            due(what + " polynomial(" + k + ", " + i + ")", x.polynomial(k, i), i < p.length ? number(p[i]) : 0);
        }
        for (int i = 0; i <= 2; i++) {
            due(what + " slope(" + k + ", " + i + ")", x.slope(k, i), number(u[i]));
        }
    }

    private static void promise1() {
        OrderTwoCases x = new OrderTwoCases();
        dueRow("1 new", x, 0, 0, 0, 0);
        dueRow("1 new", x, 1, 0, 0, 0, 0, 0);
        dueRow("1 new", x, 2, 0, 0, 0, 0, 0);
        due("1 kind", x.kind(), 0);
        due("1 answers", x.answers(), 2);
        OrderTwoCases other = new OrderTwoCases();
        other.put(0, 0, 3);
        dueRow("1 another object", x, 0, 0, 0, 0);
    }

    private static void promise2() {
        OrderTwoCases x = new OrderTwoCases();
        due("2 same", x.put(0, 0, 0), false);
        due("2 same modulo", x.put(0, 0, 32003L * 7), false);
        due("2 other", x.put(0, 2, 5), true);
        due("2 again", x.put(0, 2, 5), false);
        due("2 again modulo", x.put(0, 2, 5 - 32003L), false);
        due("2 negative", x.put(1, 4, -1), true);
        due("2 its number", x.put(1, 4, 32002), false);
        due("2 least", x.put(1, 0, Long.MIN_VALUE), true);
        due("2 most", x.put(0, 1, Long.MAX_VALUE), true);
        dueRow("2", x, 0, 0, Math.floorMod(Long.MAX_VALUE, 32003L), 5);
        dueRow("2", x, 1, Math.floorMod(Long.MIN_VALUE, 32003L), 0, 0, 0, 32002);
        due("2 back to 0", x.put(0, 2, 0), true);
        Class<?> bad = IllegalArgumentException.class;
        Class<?> out = IndexOutOfBoundsException.class;
        throwsAndKeeps("2 put(2, 0, 1)", x, bad, () -> x.put(2, 0, 1) ? 1 : 0);
        throwsAndKeeps("2 put(0, 3, 1)", x, out, () -> x.put(0, 3, 1) ? 1 : 0);
        throwsAndKeeps("2 put(1, 5, 1)", x, out, () -> x.put(1, 5, 1) ? 1 : 0);
        throwsAndKeeps("2 put(-1, 0, 1)", x, bad, () -> x.put(-1, 0, 1) ? 1 : 0);
        throwsAndKeeps("2 put(2, 9, 1)", x, bad, () -> x.put(2, 9, 1) ? 1 : 0);
        throwsAndKeeps("2 put(0, -1, 1)", x, out, () -> x.put(0, -1, 1) ? 1 : 0);
        throwsAndKeeps("2 put(1, -1, 1)", x, out, () -> x.put(1, -1, 1) ? 1 : 0);
    }

    private static void promise3() {
        // f f = 4 + 24 x + 76 x x + 120 x^3 + 100 x^4 and f' = 6 + 20 x, both before they are halved.
        OrderTwoCases x = equation(row(2, 6, 10), row(1, 2, 3, 4, 5));
        dueRow("3 f", x, 0, 2, 6, 10);
        dueRow("3 g", x, 1, 1, 2, 3, 4, 5);
        dueRow("3 rest", x, 2, 1 + 3 - 1, 6 + 10 - 2, 19 - 3, 30 - 4, 25 - 5);
        dueRow("3 quarter", equation(row(1), row()), 2, over(1, 4), 0, 0, 0, 0);
        dueRow("3 half", equation(row(0, 1), row()), 2, over(1, 2), 0, over(1, 4), 0, 0);
        Class<?> bad = IllegalArgumentException.class;
        Class<?> out = IndexOutOfBoundsException.class;
        throwsAndKeeps("3 at(3, 0)", x, bad, () -> x.at(3, 0));
        throwsAndKeeps("3 at(0, 3)", x, out, () -> x.at(0, 3));
        throwsAndKeeps("3 at(1, 5)", x, out, () -> x.at(1, 5));
        throwsAndKeeps("3 at(2, 5)", x, out, () -> x.at(2, 5));
        throwsAndKeeps("3 at(-1, 0)", x, bad, () -> x.at(-1, 0));
        throwsAndKeeps("3 at(3, 9)", x, bad, () -> x.at(3, 9));
        throwsAndKeeps("3 at(2, -1)", x, out, () -> x.at(2, -1));
    }

    private static void promise4() {
        OrderTwoCases x = equation(row(0, 0, 1), row(0, 0, 0, 0, 1));
        x.move(1);
        dueRow("4 by 1", x, 0, 1, 2, 1);
        dueRow("4 by 1", x, 1, 1, 4, 6, 4, 1);
        x.move(-1 - 32003L * 5);
        dueRow("4 back", x, 0, 0, 0, 1);
        dueRow("4 back", x, 1, 0, 0, 0, 0, 1);
        x.move(-2);
        dueRow("4 by -2", x, 0, 4, -4, 1);
        dueRow("4 by -2", x, 1, 16, -32, 24, -8, 1);
        x.move(0);
        x.move(32003);
        dueRow("4 by 0", x, 1, 16, -32, 24, -8, 1);
        x.move(2);
        long far = Math.floorMod(Long.MIN_VALUE, 32003L);
        x.move(Long.MIN_VALUE);
        dueRow("4 far", x, 0, far * far, 2 * far, 1);
        OrderTwoCases hermite = equation(row(), row(3, 0, -1));
        due("4 answers before", hermite.polynomial(0, 0), 0);
        hermite.move(5);
        dueAnswer("4 moved", hermite, 0, row(-5, -1, 0), row(5, 1));
    }

    private static void promise5() {
        due("5 constant square", equation(row(), row(-4)).kind(), 3);
        due("5 constant no square", equation(row(), row(1)).kind(), 2);
        due("5 degree 1", equation(row(), row(7, 1)).kind(), 1);
        due("5 degree 1, negative", equation(row(), row(7, -1)).kind(), 1);
        due("5 degree 2", equation(row(), row(7, 1, -9)).kind(), 3);
        due("5 degree 2, no square", equation(row(), row(7, 1, 9)).kind(), 2);
        due("5 degree 3", equation(row(), row(0, 0, 0, -1)).kind(), 1);
        due("5 degree 4", equation(row(), row(0, 0, 0, 3, -1)).kind(), 3);
        due("5 degree 4, no square", equation(row(), row(0, 0, 0, 3, 1)).kind(), 2);
        due("5 f alone", equation(row(0, 0, 3), row()).kind(), 3);
        due("5 f hides g", equation(row(2), row(1)).kind(), 0);
        due("5 f hides g, degree 4", equation(row(0, 2, 2), row(1, 2, 1, 2, 1)).kind(), 0);
    }

    private static void promise6() {
        for (int d = 0; d <= 14; d++) {
            OrderTwoCases x = equation(row(), row(2 * d + 1, 0, -1));
            due("6 degree 2, less", x.tried(0), number(-d - 1));
            due("6 degree 2, greater", x.tried(1), d);
        }
        OrderTwoCases constant = equation(row(), row(-9));
        due("6 constant", constant.tried(0), 0);
        due("6 constant", constant.tried(1), 0);
        // (2 x x + 3 x + 1)^2 is 4 x^4 + 12 x^3 + 13 x x + 6 x + 1; 5 x + 7 is left.
        OrderTwoCases x = equation(row(), row(-8, -11, -13, -12, -4));
        due("6 degree 4, less", x.tried(0), over(5 - 4, 4));
        due("6 degree 4, greater", x.tried(1), over(-5 - 4, 4));
        OrderTwoCases airy = equation(row(), row(0, -1));
        OrderTwoCases circle = equation(row(), row(1));
        OrderTwoCases none = new OrderTwoCases();
        for (int w : new int[] {Integer.MIN_VALUE, -1, 0, 1, 2, Integer.MAX_VALUE}) {
            throwsAndKeeps("6 kind 1, " + w, airy, IllegalStateException.class, () -> airy.tried(w));
            throwsAndKeeps("6 kind 2, " + w, circle, IllegalStateException.class, () -> circle.tried(w));
            throwsAndKeeps("6 kind 0, " + w, none, IllegalStateException.class, () -> none.tried(w));
            if (w != 0 && w != 1) {
                throwsAndKeeps("6 root " + w, x, IllegalArgumentException.class, () -> x.tried(w));
            }
        }
    }

    private static void promise7() {
        due("7 rest 0", equation(row(2), row(1)).answers(), 2);
        due("7 constant square", equation(row(), row(-4)).answers(), 2);
        due("7 constant no square", equation(row(), row(4)).answers(), 0);
        due("7 odd", equation(row(), row(0, 1)).answers(), 0);
        for (int d = -3; d <= 16; d++) {
            // Below 0 the other root's d is -1 - d.
            int want = d <= 12 ? 1 : 0;
            due("7 degree " + d, equation(row(), row(2 * d + 1, 0, -1)).answers(), want);
            due("7 Hermite " + d, equation(row(0, -2), row(2 * d)).answers(), want);
        }
        due("7 between", equation(row(), row(2, 0, -1)).answers(), 0);
        // w = x x leaves 2 x (d 0), or 4 x (d 1); what is left more must fit too.
        due("7 quartic", equation(row(), row(0, -2, 0, 0, -1)).answers(), 1);
        due("7 quartic, d 0 and more left", equation(row(), row(1, -2, 0, 0, -1)).answers(), 0);
        due("7 quartic, d 1", equation(row(), row(0, -4, 0, 0, -1)).answers(), 1);
        due("7 quartic, d 1 and more left", equation(row(), row(-1, -4, 0, 0, -1)).answers(), 0);
        due("7 quartic, no d", equation(row(), row(0, -3, 0, 0, -1)).answers(), 0);
        OrderTwoCases x = new OrderTwoCases();
        due("7 as it goes", x.answers(), 2);
        x.put(1, 1, 1);
        due("7 as it goes", x.answers(), 0);
        x.put(1, 1, 0);
        due("7 as it goes", x.answers(), 2);
    }

    private static void promises8To10() {
        dueAnswer("9 rest 0", new OrderTwoCases(), 0, row(0, 0, 0), row(1));
        dueAnswer("9 rest 0", new OrderTwoCases(), 1, row(0, 0, 0), row(0, 1));
        OrderTwoCases hidden = equation(row(0, 2, 2), row(1, 2, 1, 2, 1));
        dueAnswer("9 rest 0 with f", hidden, 0, row(0, -1, -1), row(1));
        dueAnswer("9 rest 0 with f", hidden, 1, row(0, -1, -1), row(0, 1));
        OrderTwoCases constant = equation(row(10), row(16));
        dueAnswer("10 less first", constant, 0, row(-2, 0, 0), row(1));
        dueAnswer("10 less first", constant, 1, row(-8, 0, 0), row(1));
        dueAnswer("9 x", equation(row(), row(3, 0, -1)), 0, row(0, -1, 0), row(0, 1));
        dueAnswer("9 growing", equation(row(), row(-3, 0, -1)), 0, row(0, 1, 0), row(0, 1));
        dueAnswer("9 Hermite 2", equation(row(0, -2), row(4)), 0, row(0, 0, 0), row(-over(1, 2), 0, 1));
        dueAnswer("9 Hermite 3", equation(row(0, -2), row(6)), 0, row(0, 0, 0), row(0, -over(3, 2), 0, 1));
        long[] he12 = row(10395, 0, -62370, 0, 51975, 0, -13860, 0, 1485, 0, -66, 0, 1);
        dueAnswer("9 Hermite 12", equation(row(0, -1), row(12)), 0, row(0, 0, 0), he12);
        dueAnswer("9 quartic", equation(row(), row(0, -4, 0, 0, -1)), 0, row(0, 0, 1), row(0, 1));
        dueAnswer("9 quartic falling", equation(row(), row(0, 4, 0, 0, -1)), 0, row(0, 0, -1), row(0, 1));
    }

    private static void wrongAnswersAndPowers() {
        Class<?> out = IndexOutOfBoundsException.class;
        long[][] all = {row(0, 1), row(3, 0, -1), row(-1)};
        for (int count = 0; count <= 2; count++) {
            for (int k : new int[] {-1, count, 3}) {
                OrderTwoCases x = equation(row(), all[count]);
                due("7 count", x.answers(), count);
                throwsAndKeeps("8 degree " + k, x, out, () -> x.degree(k));
                throwsAndKeeps("9 polynomial " + k, x, out, () -> x.polynomial(k, 0));
                throwsAndKeeps("10 slope " + k, x, out, () -> x.slope(k, 0));
                throwsAndKeeps("12 answer " + k, x, out, () -> x.answer(k, 0));
            }
        }
        OrderTwoCases two = equation(row(), row(-1));
        throwsAndKeeps("9 power -1", two, out, () -> two.polynomial(1, -1));
        throwsAndKeeps("9 power 13", two, out, () -> two.polynomial(0, 13));
        throwsAndKeeps("10 power -1", two, out, () -> two.slope(1, -1));
        throwsAndKeeps("10 power 3", two, out, () -> two.slope(0, 3));
        throwsAndKeeps("11 power -1", two, out, () -> two.series(1, 1, -1));
        throwsAndKeeps("11 power 41", two, out, () -> two.series(1, 1, 41));
        throwsAndKeeps("12 power -1", two, out, () -> two.answer(1, -1));
        throwsAndKeeps("12 power 41", two, out, () -> two.answer(0, 41));
    }

    private static void promise11() {
        OrderTwoCases grow = equation(row(), row(-1));
        OrderTwoCases circle = equation(row(), row(1));
        long factorial = 1;
        for (int k = 0; k <= 40; k++) {
            factorial = k == 0 ? 1 : factorial * k % PRIME;
            int inverse = over(1, factorial);
            due("11 exponential " + k, grow.series(1, 1, k), inverse);
            due("11 falling " + k, grow.series(1, -1, k), number(k % 2 == 0 ? inverse : -inverse));
            due("11 cosine " + k, circle.series(1, 0, k), k % 2 == 1 ? 0 : number(k % 4 == 0 ? inverse : -inverse));
        }
        OrderTwoCases airy = equation(row(), row(0, -1));
        due("11 Airy 2", airy.series(1, 0, 2), 0);
        due("11 Airy 3", airy.series(1, 0, 3), over(1, 6));
        due("11 Airy 6", airy.series(1, 0, 6), over(1, 180));
        due("11 Airy 4", airy.series(0, 1, 4), over(1, 12));
        // y'' = -y' - 2 y at 0 with y 3, y' 4.
        due("11 with f", equation(row(1), row(2)).series(3, 4, 2), number(-5));
        due("11 f at 2", equation(row(0, 0, 1), row()).series(0, 1, 4), number(-over(1, 12)));
        due("11 g at 4", equation(row(), row(0, 0, 0, 0, 1)).series(1, 0, 6), number(-over(1, 30)));
        due("11 numbers", grow.series(Long.MIN_VALUE, 0, 0), Math.floorMod(Long.MIN_VALUE, 32003L));
        due("11 numbers", grow.series(0, Long.MAX_VALUE, 1), Math.floorMod(Long.MAX_VALUE, 32003L));
        due("11 numbers", grow.series(-1, 5, 0), 32002);
        due("11 after another", grow.series(1, 0, 39), 0);
    }

    private static void promise12() {
        OrderTwoCases grow = equation(row(), row(-1));
        due("12 growing", grow.answer(0, 1), 1);
        due("12 growing", grow.answer(0, 5), over(1, 120));
        due("12 falling", grow.answer(1, 1), 32002);
        due("12 falling", grow.answer(1, 5), number(-over(1, 120)));
        OrderTwoCases bell = equation(row(), row(3, 0, -1));
        long[] want = {0, 1, 0, -over(1, 2), 0, over(1, 8), 0, -over(1, 48)};
        for (int i = 0; i < want.length; i++) {
            due("12 x times the bell " + i, bell.answer(0, i), number(want[i]));
        }
        OrderTwoCases shifted = equation(row(), row(3, 0, -1));
        shifted.move(5);
        due("12 P times something, 0", shifted.answer(0, 0), 5);
        due("12 P times something, 1", shifted.answer(0, 1), number(1 - 25));
        due("12 a polynomial", equation(row(0, -1), row(12)).answer(0, 12), 1);
        due("12 a polynomial", equation(row(0, -1), row(12)).answer(0, 0), 10395);
        due("12 a polynomial ends", equation(row(0, -1), row(12)).answer(0, 14), 0);
        due("12 power 40", equation(row(0, -1), row(12)).answer(0, 40), 0);
        due("12 rest 0", new OrderTwoCases().answer(1, 1), 1);
    }

    private static void promise13() {
        OrderTwoCases x = equation(row(0, -2), row(4));
        due("13 Hermite 2", x.proves(0, 0, 0, -1, 0, 2), true);
        due("13 modulo", x.proves(32003, -32003, 0, 32002, 64006, 32005), true);
        due("13 greatest", x.proves(Integer.MAX_VALUE, Integer.MIN_VALUE, Integer.MAX_VALUE, 0, 0, 0), true);
        due("13 greatest P", x.proves(0, 0, 0, Integer.MAX_VALUE, Integer.MIN_VALUE, 1), false);
        due("13 other", x.proves(0, 0, 0, 1, 0, 2), false);
        due("13 other u", x.proves(1, 0, 0, -1, 0, 2), false);
        due("13 P 0", x.proves(1, 2, 3, 0, 0, 0), true);
        due("13 P 0 afterwards", x.proves(0, 0, 0, -1, 0, 2), true);
        OrderTwoCases plain = new OrderTwoCases();
        due("13 rest 0, any P of degree 1", plain.proves(0, 0, 0, 7, 5, 0), true);
        due("13 rest 0, degree 2", plain.proves(0, 0, 0, 7, 5, 1), false);
        due("13 highest power", equation(row(), row(0, 0, 0, 0, 1)).proves(0, 0, 0, 0, 0, 1), false);
        due("13 highest power alone", equation(row(), row(0, 0, 0, 0, 1)).proves(0, 0, 0, 1, 0, 0), false);
        due("13 u u and f u", equation(row(0, 0, -1), row(0, -2)).proves(0, 0, 2, 1, 0, 0), false);
        // u = x x, P = x: 2 x x + (2 x + x^4 + g) x is 0 with g = -4 x - x^4.
        due("13 quartic", equation(row(), row(0, -4, 0, 0, -1)).proves(0, 0, 1, 0, 3, 0), true);
        due("13 quartic, f", equation(row(0, 0, 2), row(0, 2)).proves(0, 0, 0, 1, 0, 0), false);
        due("13 f u", equation(row(0, 0, -1), row(0, -2)).proves(0, 0, 1, 4, 0, 0), true);
    }

    private static void promise14() {
        OrderTwoCases x = equation(row(1, 2, 3), row(4, 5, 6, 7, 8));
        x.kind();
        x.clear();
        due("14", state(x).equals(state(new OrderTwoCases())), true);
        dueAnswer("14", x, 0, row(0, 0, 0), row(1));
        dueAnswer("14", x, 1, row(0, 0, 0), row(0, 1));
        due("14 put", x.put(1, 4, 8), true);
        OrderTwoCases hermite = equation(row(), row(25, 0, -1));
        due("14 before", hermite.degree(0), 12);
        hermite.clear();
        dueAnswer("14 after an answer", hermite, 0, row(0, 0, 0), row(1));
        dueAnswer("14 after an answer", hermite, 1, row(0, 0, 0), row(0, 1));
    }

    /** The lines under "Use" in README.md, in their order. */
    private static void readme() {
        OrderTwoCases x = new OrderTwoCases();
        due("readme put", x.put(1, 0, 5), true);
        due("readme put", x.put(1, 2, -1), true);
        due("readme kind", x.kind(), 3);
        due("readme tried 0", x.tried(0), 32000);
        due("readme tried 1", x.tried(1), 2);
        due("readme answers", x.answers(), 1);
        due("readme degree", x.degree(0), 2);
        due("readme polynomial", x.polynomial(0, 0), 16001);
        due("readme slope", x.slope(0, 1), 32002);
        due("readme proves", x.proves(0, -1, 0, -1, 0, 2), true);
        // - 1/2 - 1/8 through 2 is - 9/16: 16 times 6000 is 3 times 32003, less 9.
        due("readme answer", x.answer(0, 4), 6000);
        due("readme series", x.series(16001, 0, 4), 6000);
        x.move(1);
        due("readme at after move", x.at(1, 0), 4);
        x.clear();
        due("readme kind after clear", x.kind(), 0);
    }

    public static void main(String[] args) {
        readme();
        promise1();
        promise2();
        promise3();
        promise4();
        promise5();
        promise6();
        promise7();
        promises8To10();
        wrongAnswersAndPowers();
        promise11();
        promise12();
        promise13();
        promise14();
        System.out.println(wrong == 0 ? "all answers are as due" : wrong + " answers are not as due");
        if (wrong != 0) {
            System.exit(1);
        }
    }
}
