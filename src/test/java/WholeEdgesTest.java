/** Terms, the OPERATIONS of INTS and LONGS: wrapping, towards zero, DIVIDE, and shifts by the low bits of y. */
public final class WholeEdgesTest {
    private static final long LEAST_INT = -2147483648L;
    private static final long GREATEST_INT = 2147483647L;
    private static final long LEAST_LONG = 0x8000000000000000L;
    private static final long GREATEST_LONG = 0x7FFFFFFFFFFFFFFFL;

    public static void main(String[] args) {
        intsWrap();
        longsWrap();
        quotientsGoTowardsZero();
        remaindersAreWhatIsLeft();
        lesserAndGreater();
        zeroDivides();
        intsShiftByTheLowFiveBits();
        longsShiftByTheLowSixBits();
        bitsAreJoined();
        Bench.end();
    }

    private static void of(int kind, String what, int op, long x, long y, long want) {
        Bench.operates(what, kind, op, x, y, want);
    }

    private static void intsWrap() {
        of(Bench.INTS, "greatest + 1", 0, GREATEST_INT, 1, LEAST_INT);
        of(Bench.INTS, "least + -1", 0, LEAST_INT, -1, GREATEST_INT);
        of(Bench.INTS, "least + least", 0, LEAST_INT, LEAST_INT, 0);
        of(Bench.INTS, "least - 1", 1, LEAST_INT, 1, GREATEST_INT);
        of(Bench.INTS, "0 - least", 1, 0, LEAST_INT, LEAST_INT);
        of(Bench.INTS, "greatest - -1", 1, GREATEST_INT, -1, LEAST_INT);
        of(Bench.INTS, "65536 * 65536", 2, 65536, 65536, 0);
        of(Bench.INTS, "65536 * 32768", 2, 65536, 32768, LEAST_INT);
        of(Bench.INTS, "greatest * greatest", 2, GREATEST_INT, GREATEST_INT, 1);
        of(Bench.INTS, "greatest * 2", 2, GREATEST_INT, 2, -2);
        of(Bench.INTS, "least * -1", 2, LEAST_INT, -1, LEAST_INT);
        of(Bench.INTS, "least / -1", 3, LEAST_INT, -1, LEAST_INT);
        of(Bench.INTS, "-least", 7, LEAST_INT, 0, LEAST_INT);
        of(Bench.INTS, "-greatest", 7, GREATEST_INT, 0, LEAST_INT + 1);
        of(Bench.INTS, "least without its sign", 8, LEAST_INT, 0, LEAST_INT);
        of(Bench.INTS, "-1 without its sign", 8, -1, 0, 1);
        of(Bench.INTS, "1 << 31", 9, 1, 31, LEAST_INT);
    }

    private static void longsWrap() {
        of(Bench.LONGS, "greatest + 1", 0, GREATEST_LONG, 1, LEAST_LONG);
        of(Bench.LONGS, "least + -1", 0, LEAST_LONG, -1, GREATEST_LONG);
        of(Bench.LONGS, "least + least", 0, LEAST_LONG, LEAST_LONG, 0);
        of(Bench.LONGS, "least - 1", 1, LEAST_LONG, 1, GREATEST_LONG);
        of(Bench.LONGS, "0 - least", 1, 0, LEAST_LONG, LEAST_LONG);
        of(Bench.LONGS, "greatest - -1", 1, GREATEST_LONG, -1, LEAST_LONG);
        of(Bench.LONGS, "2^32 * 2^32", 2, 0x100000000L, 0x100000000L, 0);
        of(Bench.LONGS, "2^32 * 2^31", 2, 0x100000000L, 0x80000000L, LEAST_LONG);
        of(Bench.LONGS, "greatest * greatest", 2, GREATEST_LONG, GREATEST_LONG, 1);
        of(Bench.LONGS, "greatest * 2", 2, GREATEST_LONG, 2, -2);
        of(Bench.LONGS, "least * -1", 2, LEAST_LONG, -1, LEAST_LONG);
        of(Bench.LONGS, "least / -1", 3, LEAST_LONG, -1, LEAST_LONG);
        of(Bench.LONGS, "-least", 7, LEAST_LONG, 0, LEAST_LONG);
        of(Bench.LONGS, "-greatest", 7, GREATEST_LONG, 0, LEAST_LONG + 1);
        of(Bench.LONGS, "least without its sign", 8, LEAST_LONG, 0, LEAST_LONG);
        of(Bench.LONGS, "-1 without its sign", 8, -1, 0, 1);
        of(Bench.LONGS, "1 << 63", 9, 1, 63, LEAST_LONG);
        // What an INT would have wrapped.
        of(Bench.LONGS, "the greatest INT + 1", 0, GREATEST_INT, 1, 2147483648L);
        of(Bench.LONGS, "-the least INT", 7, LEAST_INT, 0, 2147483648L);
        of(Bench.LONGS, "the least INT / -1", 3, LEAST_INT, -1, 2147483648L);
    }

    private static void quotientsGoTowardsZero() {
        for (int kind = Bench.INTS; kind <= Bench.LONGS; kind++) {
            of(kind, "7 / 2", 3, 7, 2, 3);
            of(kind, "-7 / 2", 3, -7, 2, -3);
            of(kind, "7 / -2", 3, 7, -2, -3);
            of(kind, "-7 / -2", 3, -7, -2, 3);
            of(kind, "-1 / 2", 3, -1, 2, 0);
            of(kind, "0 / -5", 3, 0, -5, 0);
        }
        of(Bench.INTS, "least / 2", 3, LEAST_INT, 2, -1073741824L);
        of(Bench.INTS, "least / greatest", 3, LEAST_INT, GREATEST_INT, -1);
        of(Bench.LONGS, "least / greatest", 3, LEAST_LONG, GREATEST_LONG, -1);
    }

    private static void remaindersAreWhatIsLeft() {
        for (int kind = Bench.INTS; kind <= Bench.LONGS; kind++) {
            of(kind, "7 rest by 2", 4, 7, 2, 1);
            of(kind, "-7 rest by 2", 4, -7, 2, -1);
            of(kind, "7 rest by -2", 4, 7, -2, 1);
            of(kind, "-7 rest by -2", 4, -7, -2, -1);
            of(kind, "-8 rest by 2", 4, -8, 2, 0);
            of(kind, "3 rest by 5", 4, 3, 5, 3);
        }
        of(Bench.INTS, "least rest by -1", 4, LEAST_INT, -1, 0);
        of(Bench.INTS, "least rest by greatest", 4, LEAST_INT, GREATEST_INT, -1);
        of(Bench.LONGS, "least rest by -1", 4, LEAST_LONG, -1, 0);
        of(Bench.LONGS, "least rest by greatest", 4, LEAST_LONG, GREATEST_LONG, -1);
    }

    private static void lesserAndGreater() {
        of(Bench.INTS, "lesser of the ends", 5, GREATEST_INT, LEAST_INT, LEAST_INT);
        of(Bench.INTS, "greater of the ends", 6, LEAST_INT, GREATEST_INT, GREATEST_INT);
        of(Bench.LONGS, "lesser of the ends", 5, GREATEST_LONG, LEAST_LONG, LEAST_LONG);
        of(Bench.LONGS, "greater of the ends", 6, LEAST_LONG, GREATEST_LONG, GREATEST_LONG);
        of(Bench.LONGS, "greater of two equal ones", 6, -3, -3, -3);
    }

    /** y 0: DIVIDE, whatever x is, and nothing becomes anything; the other OPERATIONS take a 0. */
    private static void zeroDivides() {
        for (int kind = Bench.INTS; kind <= Bench.LONGS; kind++) {
            for (int op = 0; op <= 14; op++) {
                boolean divides = op == 3 || op == 4;
                for (long x : new long[] {0, 1, -1, kind == Bench.INTS ? LEAST_INT : LEAST_LONG}) {
                    NumberProbe probe = Bench.filled();
                    probe.put(kind, 0, x);
                    probe.put(kind, 5, 0);
                    String call = "operate(" + kind + ", " + op + ", 0, 5, 3) of " + x + " and 0";
                    int want = divides ? NumberProbe.DIVIDE : NumberProbe.DONE;
                    Bench.due(call, probe.operate(kind, op, 0, 5, 3), want);
                    Bench.due(call + " leaves x", probe.bits(kind, 0), x);
                    Bench.due(call + " leaves y", probe.bits(kind, 5), 0);
                    if (divides) {
                        Bench.due(call + " leaves number to", probe.bits(kind, 3), Bench.filling(kind, 3));
                    }
                }
            }
        }
    }

    private static void intsShiftByTheLowFiveBits() {
        long[] counts = {0, 31, 32, 33, 63, 64, -1, -31, -32, LEAST_INT, GREATEST_INT};
        long[] left = {3, LEAST_INT, 3, 6, LEAST_INT, 3, LEAST_INT, 6, 3, 3, LEAST_INT};
        long[] right = {-5, -1, -5, -3, -1, -5, -1, -3, -5, -5, -1};
        long[] filled = {-5, 1, -5, 0x7FFFFFFDL, 1, -5, 1, 0x7FFFFFFDL, -5, -5, 1};
        for (int k = 0; k < counts.length; k++) {
            of(Bench.INTS, "3 << " + counts[k], 9, 3, counts[k], left[k]);
            of(Bench.INTS, "-5 >> " + counts[k], 10, -5, counts[k], right[k]);
            of(Bench.INTS, "-5 >>> " + counts[k], 11, -5, counts[k], filled[k]);
        }
    }

    private static void longsShiftByTheLowSixBits() {
        long[] counts = {0, 1, 63, 64, 65, 127, -1, -63, 0x100000000L, 0x100000001L, LEAST_LONG, GREATEST_LONG};
        long[] left = {3, 6, LEAST_LONG, 3, 6, LEAST_LONG, LEAST_LONG, 6, 3, 6, 3, LEAST_LONG};
        long[] right = {-5, -3, -1, -5, -3, -1, -1, -3, -5, -3, -5, -1};
        long half = 0x7FFFFFFFFFFFFFFDL;
        long[] filled = {-5, half, 1, -5, half, 1, 1, half, -5, half, -5, 1};
        for (int k = 0; k < counts.length; k++) {
            of(Bench.LONGS, "3 << " + counts[k], 9, 3, counts[k], left[k]);
            of(Bench.LONGS, "-5 >> " + counts[k], 10, -5, counts[k], right[k]);
            of(Bench.LONGS, "-5 >>> " + counts[k], 11, -5, counts[k], filled[k]);
        }
        of(Bench.LONGS, "1 << 32, not 1 << 0", 9, 1, 32, 0x100000000L);
        of(Bench.LONGS, "-1 >>> 32", 11, -1, 32, 0xFFFFFFFFL);
    }

    private static void bitsAreJoined() {
        for (int kind = Bench.INTS; kind <= Bench.LONGS; kind++) {
            of(kind, "12 and 10", 12, 12, 10, 8);
            of(kind, "12 or 10", 13, 12, 10, 14);
            of(kind, "12 exclusive or 10", 14, 12, 10, 6);
            of(kind, "-1 and -8", 12, -1, -8, -8);
            of(kind, "-8 or 7", 13, -8, 7, -1);
            of(kind, "-1 exclusive or 7", 14, -1, 7, -8);
        }
        of(Bench.INTS, "least or greatest", 13, LEAST_INT, GREATEST_INT, -1);
        of(Bench.LONGS, "least and greatest", 12, LEAST_LONG, GREATEST_LONG, 0);
    }
}
