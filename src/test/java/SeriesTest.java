/** Promise 12: series, against the same sum of Java's own doubles. */
public final class SeriesTest {
    private static final int EVERY = 5;

    public static void main(String[] args) {
        for (int n = 0; n <= 40; n++) {
            sums(0.1, 0.1, n);
            sums(-3.7, 1.1, n);
            sums(1e16, 0.7, n);
            sums(1e308, 1e307, n);
            sums(-1e308, 1e308, n);
            sums(Double.MIN_VALUE, Double.MIN_VALUE, n);
        }
        long[] samples = Bench.samples(Bench.DOUBLES);
        for (int i = 0; i < samples.length; i++) {
            for (int k = i % EVERY; k < samples.length; k += EVERY) {
                sums(Bench.twofold(samples[i]), Bench.twofold(samples[k]), (i + 3 * k) % 41);
            }
        }
        choosesNumbers();
        refuses();
        Bench.end();
    }

    private static void sums(double a, double s, int n) {
        NumberProbe x = new NumberProbe();
        x.put(Bench.DOUBLES, 0, Bench.told(a));
        x.put(Bench.DOUBLES, 1, Bench.told(s));
        Bench.due("series(0, 1, " + n + ", 2)", x.series(0, 1, n, 2), NumberProbe.DONE);
        String what = "the sum of " + n + " terms from " + a + " by " + s;
        Bench.due(what, x.bits(Bench.DOUBLES, 2), Bench.told(sum(a, s, n)));
    }

    private static double sum(double a, double s, int n) {
        if (n == 0) {
            return 0.0;
        }
        double term = a;
        double sum = term;
        for (int k = 1; k < n; k++) {
            term += s;
            sum += term;
        }
        return sum;
    }

    private static void choosesNumbers() {
        for (int a = 0; a < 6; a++) {
            for (int b = 0; b < 6; b++) {
                int to = (2 * a + b) % 6;
                NumberProbe x = Bench.filled();
                String call = "series(" + a + ", " + b + ", 3, " + to + ")";
                Bench.due(call, x.series(a, b, 3, to), NumberProbe.DONE);
                double want = sum(Bench.twofold(Bench.filling(1, a)), Bench.twofold(Bench.filling(1, b)), 3);
                Bench.due("bits after " + call, x.bits(Bench.DOUBLES, to), Bench.told(want));
                for (int other = 0; other < 4; other++) {
                    Bench.unchangedBut(call, x, other, other == Bench.DOUBLES ? to : -1);
                }
            }
        }
    }

    private static void refuses() {
        NumberProbe x = Bench.filled();
        for (int n : new int[] {-1, 41, 42, Integer.MIN_VALUE, Integer.MAX_VALUE}) {
            Bench.refused("series(0, 1, " + n + ", 2)", x, x.series(0, 1, n, 2));
        }
        x = Bench.filled();
        for (int i : Bench.NO_NUMBERS) {
            Bench.refused("series(" + i + ", 1, 2, 2)", x, x.series(i, 1, 2, 2));
            Bench.refused("series(0, " + i + ", 2, 2)", x, x.series(0, i, 2, 2));
            Bench.refused("series(0, 1, 2, " + i + ")", x, x.series(0, 1, 2, i));
        }
        for (int i : Bench.NO_NUMBERS) {
            x = Bench.filled();
            Bench.refused("series(" + i + ", 1, 0, 2)", x, x.series(i, 1, 0, 2));
            Bench.refused("series(0, " + i + ", 0, 2)", x, x.series(0, i, 0, 2));
        }
    }
}
