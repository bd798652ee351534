/** Promise 13: polynomial, against the same one of Java's own floats. */
public final class PolynomialTest {
    private static final int SCATTERED = 20000;

    public static void main(String[] args) {
        NumberProbe plain = new NumberProbe();
        for (int i = 0; i < 6; i++) {
            plain.put(Bench.SINGLES, i, Bench.told(i + 1.0f));
        }
        Bench.due("polynomial(1, 3)", plain.polynomial(1, 3), NumberProbe.DONE);
        Bench.due("1 + 2 * 2 + 3 * 4 + 4 * 8 + 5 * 16 + 6 * 32", plain.bits(Bench.SINGLES, 3), Bench.told(321.0f));
        for (int k = 0; k < SCATTERED; k++) {
            solves(row(k), k % 6, k / 6 % 6);
        }
        changesOneNumber();
        refuses();
        Bench.end();
    }

    private static long[] row(int number) {
        long[] samples = Bench.samples(Bench.SINGLES);
        long[] row = new long[6];
        for (int i = 0; i < row.length; i++) {
            long choice = Bench.scattered(6L * number + i) >>> 1;
            boolean edge = number % 4 == 0 && choice % 5 == 0;
            row[i] = edge
                ? samples[(int) (choice / 5 % samples.length)]
                : Bench.told((float) (Bench.scatteredFloat(Bench.SINGLES, 6L * number + i) % 1000003) / 1009);
        }
        return row;
    }

    private static void solves(long[] row, int x, int to) {
        NumberProbe probe = new NumberProbe();
        for (int i = 0; i < 6; i++) {
            probe.put(Bench.SINGLES, i, row[i]);
        }
        Bench.due("polynomial(" + x + ", " + to + ")", probe.polynomial(x, to), NumberProbe.DONE);
        for (int i = 0; i < 6; i++) {
            long want = i == to ? Bench.told(value(row, Bench.single(row[x]))) : row[i];
            if (probe.bits(Bench.SINGLES, i) != want) {
                String what = "SINGLE " + i + " after polynomial(" + x + ", " + to + ")";
                Bench.due(what, probe.bits(Bench.SINGLES, i), want);
            }
        }
    }

    private static float value(long[] row, float x) {
        float value = Bench.single(row[5]);
        for (int k = 4; k >= 0; k--) {
            value = value * x;
            value = value + Bench.single(row[k]);
        }
        return value;
    }

    private static void changesOneNumber() {
        for (int x = 0; x < 6; x++) {
            for (int to = 0; to < 6; to++) {
                NumberProbe probe = Bench.filled();
                String call = "polynomial(" + x + ", " + to + ")";
                Bench.due(call, probe.polynomial(x, to), NumberProbe.DONE);
                for (int kind = 0; kind < 4; kind++) {
                    Bench.unchangedBut(call, probe, kind, kind == Bench.SINGLES ? to : -1);
                }
            }
        }
    }

    private static void refuses() {
        NumberProbe x = Bench.filled();
        for (int i : Bench.NO_NUMBERS) {
            Bench.refused("polynomial(" + i + ", 0)", x, x.polynomial(i, 0));
            Bench.refused("polynomial(0, " + i + ")", x, x.polynomial(0, i));
        }
    }
}
