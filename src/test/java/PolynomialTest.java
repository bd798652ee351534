import java.util.Arrays;

/** Promise 13: polynomial, against the same one of Java's own floats. */
public final class PolynomialTest {
    private static final int SCATTERED = 20000;

    public static void main(String[] args) {
        NumberProbe plain = new NumberProbe();
        for (int i = 0; i < 6; i++) {
            plain.put(Bench.SINGLES, i, Bench.told(i + 1.0f));
        }
        Bench.due("polynomial(1, 3)", plain.polynomial(1, 3), NumberProbe.DONE);
        Bench.due("1 + 2 * 2 + 3 * 4 + 4 * 8 + 5 * 16 + 6 * 32", plain.bits(Bench.SINGLES, 3), Bench.told(321.0f));
        for (int k = 0; k < SCATTERED; k++) {
            solves(row(k), k % 6, k / 6 % 6);
        }
        takesTheNumbersAsTheyAre();
        endsInInfinitiesAndNaN();
        keepsTheSignOfZero();
        changesOneNumber();
        refuses();
        Bench.end();
    }

    private static long[] row(int number) {
        long[] samples = Bench.samples(Bench.SINGLES);
        long[] row = new long[6];
        for (int i = 0; i < row.length; i++) {
            long choice = Bench.scattered(6L * number + i) >>> 1;
            boolean edge = number % 4 == 0 && choice % 5 == 0;
            row[i] = edge
                ? samples[(int) (choice / 5 % samples.length)]
                : Bench.told((float) (Bench.scatteredFloat(Bench.SINGLES, 6L * number + i) % 1000003) / 1009);
        }
        return row;
    }

    private static void solves(long[] row, int x, int to) {
        NumberProbe probe = new NumberProbe();
        for (int i = 0; i < 6; i++) {
            probe.put(Bench.SINGLES, i, row[i]);
        }
        Bench.due("polynomial(" + x + ", " + to + ")", probe.polynomial(x, to), NumberProbe.DONE);
        for (int i = 0; i < 6; i++) {
            long want = i == to ? Bench.told(value(row, Bench.single(row[x]))) : row[i];
            if (probe.bits(Bench.SINGLES, i) != want) {
                String what = "SINGLE " + i + " after polynomial(" + x + ", " + to + ")";
                Bench.due(what, probe.bits(Bench.SINGLES, i), want);
            }
        }
    }

    private static float value(long[] row, float x) {
        float value = Bench.single(row[5]);
        for (int k = 4; k >= 0; k--) {
            value = value * x;
            value = value + Bench.single(row[k]);
        }
        return value;
    }

    /** Number to is one of the six, and may be x: what it was before counts. */
    private static void takesTheNumbersAsTheyAre() {
        for (int x = 0; x < 6; x++) {
            for (int to = 0; to < 6; to++) {
                float want = 0;
                for (int k = 5; k >= 0; k--) {
                    want = want * (x + 1) + (k + 1);
                }
                becomes(new float[] {1, 2, 3, 4, 5, 6}, x, to, Bench.told(want));
            }
        }
        becomes(new float[] {7, 0, 0, 0, 0, 0}, 5, 5, Bench.told(7.0f));
        becomes(new float[] {0, 0, 0, 0, 0, 2}, 5, 5, Bench.told(64.0f));
    }

    private static void endsInInfinitiesAndNaN() {
        float infinite = Float.POSITIVE_INFINITY;
        becomes(new float[] {0, 0, 0, 0, 0, Float.MAX_VALUE}, 5, 1, 0x7F800000);
        becomes(new float[] {0, 0, 0, 0, 0, -Float.MAX_VALUE}, 5, 1, 0x7F800000);
        becomes(new float[] {-infinite, 1, 1, 1, 1, 1}, 0, 1, 0xFF800000);
        becomes(new float[] {-infinite, 1, 1, 1, 1, infinite}, 1, 0, 0x7FC00000);
        becomes(new float[] {0, 1, 1, 1, 1, infinite}, 0, 0, 0x7FC00000);
        becomes(new float[] {1, 1, 1, Float.NaN, 1, 1}, 0, 0, 0x7FC00000);
    }

    private static void keepsTheSignOfZero() {
        becomes(new float[] {-0.0f, 0, 0, 0, 0, 0}, 1, 2, 0x00000000);
        becomes(new float[] {-0.0f, -0.0f, -0.0f, -0.0f, -0.0f, -0.0f}, 1, 2, 0x00000000);
        becomes(new float[] {-0.0f, 1, 0, 0, 0, -0.0f}, 1, 2, Bench.told(1.0f));
        becomes(new float[] {-0.0f, -0.0f, -0.0f, -0.0f, -1, 0x1p-60f}, 5, 2, 0x80000000);
    }

    private static void becomes(float[] row, int x, int to, long want) {
        NumberProbe probe = new NumberProbe();
        for (int i = 0; i < 6; i++) {
            probe.put(Bench.SINGLES, i, Bench.told(row[i]));
        }
        String call = "polynomial(" + x + ", " + to + ") of " + Arrays.toString(row);
        Bench.due(call, probe.polynomial(x, to), NumberProbe.DONE);
        Bench.due(call + ", then bits(0, " + to + ")", probe.bits(Bench.SINGLES, to), want);
    }

    private static void changesOneNumber() {
        for (int x = 0; x < 6; x++) {
            for (int to = 0; to < 6; to++) {
                NumberProbe probe = Bench.filled();
                String call = "polynomial(" + x + ", " + to + ")";
                Bench.due(call, probe.polynomial(x, to), NumberProbe.DONE);
                for (int kind = 0; kind < 4; kind++) {
                    Bench.unchangedBut(call, probe, kind, kind == Bench.SINGLES ? to : -1);
                }
            }
        }
    }

    private static void refuses() {
        NumberProbe x = Bench.filled();
        for (int i : Bench.NO_NUMBERS) {
            Bench.refused("polynomial(" + i + ", 0)", x, x.polynomial(i, 0));
            Bench.refused("polynomial(0, " + i + ")", x, x.polynomial(0, i));
        }
    }
}
