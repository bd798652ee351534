/** Promise 12: 0, 1, 2, 40 and 41 terms, and terms that end in an infinity or a NaN. */
public final class SeriesEdgesTest {
    private static final long NAN = 0x7FF8000000000000L;
    private static final long INFINITY = 0x7FF0000000000000L;
    private static final long INFINITY_BELOW_ZERO = 0xFFF0000000000000L;
    private static final long GREATEST = 0x7FEFFFFFFFFFFFFFL;
    private static final long MINUS_ZERO = 0x8000000000000000L;

    public static void main(String[] args) {
        withoutTermsItIsZero();
        oneTermIsTheFirst();
        twoTerms();
        fortyTerms();
        fortyOneAreRefused();
        fewerThanNoneAreRefused();
        theSumMayBeOneOfItsOwnNumbers();
        beyondTheGreatest();
        Bench.end();
    }

    private static void sums(String what, long a, long s, int n, long want) {
        NumberProbe x = new NumberProbe();
        x.put(Bench.DOUBLES, 0, a);
        x.put(Bench.DOUBLES, 1, s);
        x.put(Bench.DOUBLES, 2, Bench.told(77.0));
        Bench.due(what + ": series(0, 1, " + n + ", 2)", x.series(0, 1, n, 2), NumberProbe.DONE);
        Bench.due(what, x.bits(Bench.DOUBLES, 2), want);
    }

    private static void withoutTermsItIsZero() {
        sums("nothing from 5 by 7", Bench.told(5.0), Bench.told(7.0), 0, 0);
        sums("nothing from -0.0", MINUS_ZERO, MINUS_ZERO, 0, 0);
        sums("nothing from a NaN", NAN, NAN, 0, 0);
        sums("nothing from infinity", INFINITY_BELOW_ZERO, INFINITY, 0, 0);
    }

    private static void oneTermIsTheFirst() {
        sums("5 alone", Bench.told(5.0), Bench.told(7.0), 1, Bench.told(5.0));
        sums("-0.0 alone, not 0.0 + -0.0", MINUS_ZERO, Bench.told(7.0), 1, MINUS_ZERO);
        sums("5 alone by a NaN", Bench.told(5.0), NAN, 1, Bench.told(5.0));
        sums("the greatest alone by itself", GREATEST, GREATEST, 1, GREATEST);
        sums("a NaN alone", NAN, Bench.told(7.0), 1, NAN);
    }

    private static void twoTerms() {
        sums("5 + 12", Bench.told(5.0), Bench.told(7.0), 2, Bench.told(17.0));
        sums("-0.0 + -0.0", MINUS_ZERO, MINUS_ZERO, 2, MINUS_ZERO);
        sums("-0.0 + 0.0", MINUS_ZERO, 0, 2, 0);
        sums("5 by a NaN", Bench.told(5.0), NAN, 2, NAN);
        sums("1 + -1", Bench.told(1.0), Bench.told(-2.0), 2, 0);
    }

    private static void fortyTerms() {
        sums("1 + .. + 40", Bench.told(1.0), Bench.told(1.0), 40, Bench.told(820.0));
        sums("1 + .. + 39", Bench.told(1.0), Bench.told(1.0), 39, Bench.told(780.0));
        sums("40 times 0.5", Bench.told(0.5), 0, 40, Bench.told(20.0));
        sums("40 times -0.0", MINUS_ZERO, MINUS_ZERO, 40, MINUS_ZERO);
        sums("19.5 down to -19.5", Bench.told(19.5), Bench.told(-1.0), 40, 0);
        sums("40 least ones", 1, 0, 40, 40);
        // Each tenth is rounded, and so are the terms and the sums: the exact sum is 82.
        sums("0.1 + .. + 4.0", Bench.told(0.1), Bench.told(0.1), 40, Bench.told(tenths()));
    }

    private static double tenths() {
        double term = 0.1;
        double sum = 0.1;
        for (int k = 1; k < 40; k++) {
            term = term + 0.1;
            sum = sum + term;
        }
        return sum;
    }

    private static void fortyOneAreRefused() {
        for (int n : new int[] {41, 42, 1000000, Integer.MAX_VALUE}) {
            NumberProbe x = Bench.filled();
            Bench.refused("series(0, 1, " + n + ", 2)", x, x.series(0, 1, n, 2));
        }
    }

    private static void fewerThanNoneAreRefused() {
        for (int n : new int[] {-1, -2, -40, Integer.MIN_VALUE}) {
            NumberProbe x = Bench.filled();
            Bench.refused("series(0, 1, " + n + ", 2)", x, x.series(0, 1, n, 2));
        }
    }

    private static void theSumMayBeOneOfItsOwnNumbers() {
        for (int to = 0; to < 2; to++) {
            NumberProbe x = new NumberProbe();
            x.put(Bench.DOUBLES, 0, Bench.told(5.0));
            x.put(Bench.DOUBLES, 1, Bench.told(7.0));
            Bench.due("series(0, 1, 3, " + to + ")", x.series(0, 1, 3, to), NumberProbe.DONE);
            Bench.due("5 + 12 + 19", x.bits(Bench.DOUBLES, to), Bench.told(36.0));
        }
        NumberProbe x = new NumberProbe();
        x.put(Bench.DOUBLES, 4, Bench.told(5.0));
        Bench.due("series(4, 4, 3, 4)", x.series(4, 4, 3, 4), NumberProbe.DONE);
        Bench.due("5 + 10 + 15", x.bits(Bench.DOUBLES, 4), Bench.told(30.0));
    }

    private static void beyondTheGreatest() {
        sums("greatest + greatest", GREATEST, 0, 2, INFINITY);
        sums("-greatest - greatest", 0xFFEFFFFFFFFFFFFFL, 0, 2, INFINITY_BELOW_ZERO);
        sums("infinity, then infinity - infinity", INFINITY, INFINITY_BELOW_ZERO, 2, NAN);
        sums("terms that become infinite", 0, GREATEST, 40, INFINITY);
    }
}
