/** Promise 5: operate on SINGLES and DOUBLES, against Java's own floats and doubles. */
public final class OperateFloatTest {
    private static final int SCATTERED_PAIRS = 20000;

    public static void main(String[] args) {
        for (int kind = 0; kind < 2; kind++) {
            for (long x : Bench.samples(kind)) {
                for (long y : Bench.samples(kind)) {
                    operatesAll(kind, x, y);
                }
            }
            for (int k = 0; k < SCATTERED_PAIRS; k++) {
                operatesAll(kind, Bench.scatteredFloat(kind, 2 * k), Bench.scatteredFloat(kind, 2 * k + 1));
            }
            choosesNumbers(kind);
            refuses(kind);
        }
        Bench.end();
    }

    private static void operatesAll(int kind, long x, long y) {
        NumberProbe probe = new NumberProbe();
        probe.put(kind, 0, x);
        probe.put(kind, 1, y);
        for (int op = 0; op <= 8; op++) {
            if (probe.operate(kind, op, 0, 1, 2) != NumberProbe.DONE || probe.bits(kind, 2) != wanted(kind, op, x, y)) {
                String what = "kind " + kind + ": " + x + " op " + op + " " + y;
                Bench.due(what, probe.bits(kind, 2), wanted(kind, op, x, y));
                Bench.due("is DONE", probe.operate(kind, op, 0, 1, 2), NumberProbe.DONE);
            }
        }
    }

    private static long wanted(int kind, int op, long x, long y) {
        return kind == Bench.SINGLES
            ? Bench.told(Reckoner.reckoned(op, Bench.single(x), Bench.single(y)))
            : Bench.told(Reckoner.reckoned(op, Bench.twofold(x), Bench.twofold(y)));
    }

    /** a, b and to may be any numbers, the same ones too, and only number to changes. */
    private static void choosesNumbers(int kind) {
        for (int a = 0; a < 6; a++) {
            for (int b = 0; b < 6; b++) {
                int to = (a + 2 * b) % 6;
                NumberProbe x = Bench.filled();
                String call = "operate(" + kind + ", 1, " + a + ", " + b + ", " + to + ")";
                Bench.due(call, x.operate(kind, 1, a, b, to), NumberProbe.DONE);
                long want = wanted(kind, 1, Bench.filling(kind, a), Bench.filling(kind, b));
                Bench.due("bits after " + call, x.bits(kind, to), want);
                for (int other = 0; other < 4; other++) {
                    Bench.unchangedBut(call, x, other, other == kind ? to : -1);
                }
            }
        }
    }

    private static void refuses(int kind) {
        NumberProbe x = Bench.filled();
        for (int op : new int[] {-1, 9, 10, 14, 15, Integer.MIN_VALUE, Integer.MAX_VALUE}) {
            Bench.refused("operate(" + kind + ", " + op + ", 0, 1, 2)", x, x.operate(kind, op, 0, 1, 2));
        }
        for (int i : Bench.NO_NUMBERS) {
            x = Bench.filled();
            Bench.refused("operate(" + kind + ", 0, " + i + ", 1, 2)", x, x.operate(kind, 0, i, 1, 2));
            Bench.refused("operate(" + kind + ", 0, 0, " + i + ", 2)", x, x.operate(kind, 0, 0, i, 2));
            Bench.refused("operate(" + kind + ", 0, 0, 1, " + i + ")", x, x.operate(kind, 0, 0, 1, i));
            Bench.refused("operate(" + kind + ", 7, 0, " + i + ", 2)", x, x.operate(kind, 7, 0, i, 2));
        }
    }
}
