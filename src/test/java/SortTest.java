/** Promise 11: sort. */
public final class SortTest {
    private static final int SCATTERED = 2000;

    public static void main(String[] args) {
        for (int kind = 0; kind < 2; kind++) {
            for (long bits : Bench.samples(kind)) {
                sorts(kind, bits, wanted(kind, bits));
            }
            for (int k = 0; k < SCATTERED; k++) {
                long bits = Bench.scatteredFloat(kind, k);
                sorts(kind, bits, wanted(kind, bits));
            }
        }
        knowsEveryPowerOfTwo();
        tellsANaNAndNothingElse();
        tellsInfinities();
        tellsZeros();
        tellsThoseWithFewerBits();
        tellsWholeNumbers();
        answersZeroForWholeNumbers();
        refuses();
        Bench.end();
    }

    private static void sorts(int kind, long bits, int want) {
        NumberProbe x = new NumberProbe();
        x.put(kind, 2, bits);
        Bench.due("sort(" + kind + ", 2) of " + bits, x.sort(kind, 2), want);
        Bench.due("bits after sort", x.bits(kind, 2), Bench.told(kind, bits));
    }

    private static int wanted(int kind, long bits) {
        double x = kind == Bench.SINGLES ? Bench.single(bits) : Bench.twofold(bits);
        double leastNormal = kind == Bench.SINGLES ? Float.MIN_NORMAL : Double.MIN_NORMAL;
        boolean finite = Double.isFinite(x);
        return bit(0, Double.isNaN(x)) | bit(1, Double.isInfinite(x)) | bit(2, finite) | bit(3, x == 0)
            | bit(4, finite && x != 0 && Math.abs(x) < leastNormal) | bit(5, !Double.isNaN(x) && bits < 0)
            | bit(6, finite && x == Math.rint(x)) | bit(7, isPowerOfTwo(x));
    }

    private static boolean isPowerOfTwo(double x) {
        for (int power = -1074; power <= 1023; power++) {
            if (x == Math.scalb(1.0, power)) {
                return true;
            }
        }
        return false;
    }

    private static int bit(int number, boolean set) {
        return set ? 1 << number : 0;
    }

    private static void knowsEveryPowerOfTwo() {
        for (int power = -149; power <= 127; power++) {
            int want = 4 | bit(4, power < -126) | bit(6, power >= 0);
            sorts(Bench.SINGLES, Bench.told(Math.scalb(1.0f, power)), want | 128);
            sorts(Bench.SINGLES, Bench.told(-Math.scalb(1.0f, power)), want | 32);
        }
        for (int power = -1074; power <= 1023; power++) {
            int want = 4 | bit(4, power < -1022) | bit(6, power >= 0);
            sorts(Bench.DOUBLES, Bench.told(Math.scalb(1.0, power)), want | 128);
            sorts(Bench.DOUBLES, Bench.told(-Math.scalb(1.0, power)), want | 32);
        }
    }

    private static void tellsANaNAndNothingElse() {
        for (long bits : new long[] {0x7FC00000, 0xFFC00000, 0x7F800001, 0xFFFFFFFF}) {
            sorts(Bench.SINGLES, bits, 1);
        }
        for (long bits : new long[] {0x7FF8000000000000L, 0xFFF8000000000000L, 0x7FF0000000000001L, -1L}) {
            sorts(Bench.DOUBLES, bits, 1);
        }
    }

    private static void tellsInfinities() {
        sorts(Bench.SINGLES, 0x7F800000, 2);
        sorts(Bench.SINGLES, 0xFF800000, 2 + 32);
        sorts(Bench.SINGLES, 0x7F7FFFFF, 4 + 64);
        sorts(Bench.DOUBLES, 0x7FF0000000000000L, 2);
        sorts(Bench.DOUBLES, 0xFFF0000000000000L, 2 + 32);
        sorts(Bench.DOUBLES, 0xFFEFFFFFFFFFFFFFL, 4 + 32 + 64);
    }

    private static void tellsZeros() {
        sorts(Bench.SINGLES, 0x00000000, 4 + 8 + 64);
        sorts(Bench.SINGLES, 0x80000000, 4 + 8 + 32 + 64);
        sorts(Bench.DOUBLES, 0, 4 + 8 + 64);
        sorts(Bench.DOUBLES, 0x8000000000000000L, 4 + 8 + 32 + 64);
    }

    private static void tellsThoseWithFewerBits() {
        sorts(Bench.SINGLES, 0x00000001, 4 + 16 + 128);
        sorts(Bench.SINGLES, 0x80000001, 4 + 16 + 32);
        sorts(Bench.SINGLES, 0x00000003, 4 + 16);
        sorts(Bench.SINGLES, 0x00400000, 4 + 16 + 128);
        sorts(Bench.SINGLES, 0x007FFFFF, 4 + 16);
        sorts(Bench.SINGLES, 0x00800000, 4 + 128);
        sorts(Bench.DOUBLES, 0x0000000000000001L, 4 + 16 + 128);
        sorts(Bench.DOUBLES, 0x800FFFFFFFFFFFFFL, 4 + 16 + 32);
        sorts(Bench.DOUBLES, 0x0010000000000000L, 4 + 128);
    }

    private static void tellsWholeNumbers() {
        sorts(Bench.SINGLES, Bench.told(0.5f), 4 + 128);
        sorts(Bench.SINGLES, 0x3F7FFFFF, 4);
        sorts(Bench.SINGLES, 0x3F800001, 4);
        sorts(Bench.SINGLES, Bench.told(-3.0f), 4 + 32 + 64);
        sorts(Bench.SINGLES, Bench.told(8388607.5f), 4);
        sorts(Bench.SINGLES, Bench.told(8388608f), 4 + 64 + 128);
        sorts(Bench.SINGLES, Bench.told(8388609f), 4 + 64);
        sorts(Bench.DOUBLES, Bench.told(3.0), 4 + 64);
        sorts(Bench.DOUBLES, Bench.told(-2.5), 4 + 32);
        sorts(Bench.DOUBLES, Bench.told(4503599627370495.5), 4);
        sorts(Bench.DOUBLES, Bench.told(4503599627370496.0), 4 + 64 + 128);
        sorts(Bench.DOUBLES, Bench.told(4503599627370497.0), 4 + 64);
    }

    private static void answersZeroForWholeNumbers() {
        NumberProbe x = Bench.filled();
        x.boundary(Bench.INTS, 0, 3);
        x.boundary(Bench.LONGS, 0, 0);
        for (int i = 0; i < 6; i++) {
            Bench.due("sort(2, " + i + ")", x.sort(Bench.INTS, i), 0);
            Bench.due("sort(3, " + i + ")", x.sort(Bench.LONGS, i), 0);
        }
    }

    private static void refuses() {
        NumberProbe x = Bench.filled();
        for (int kind = 0; kind < 4; kind++) {
            for (int i : Bench.NO_NUMBERS) {
                Bench.due("sort(" + kind + ", " + i + ")", x.sort(kind, i), NumberProbe.REFUSED);
            }
        }
        for (int kind : Bench.NO_KINDS) {
            Bench.due("sort(" + kind + ", 0)", x.sort(kind, 0), NumberProbe.REFUSED);
        }
        Bench.unchanged("sort", x);
    }
}
