/** Promise 5: operate on SINGLES and DOUBLES, against Java's own floats and doubles. */
public final class OperateFloatTest {
    private static final int SCATTERED_PAIRS = 20000;

    public static void main(String[] args) {
        for (int kind = 0; kind < 2; kind++) {
            for (long x : Bench.samples(kind)) {
                for (long y : Bench.samples(kind)) {
                    operatesAll(kind, x, y);
                }
            }
            for (int k = 0; k < SCATTERED_PAIRS; k++) {
                operatesAll(kind, Bench.scatteredFloat(kind, 2 * k), Bench.scatteredFloat(kind, 2 * k + 1));
            }
            choosesNumbers(kind);
            refuses(kind);
        }
        keepsTheDocumentsEdges();
        Bench.end();
    }

    private static void operatesAll(int kind, long x, long y) {
        NumberProbe probe = new NumberProbe();
        probe.put(kind, 0, x);
        probe.put(kind, 1, y);
        for (int op = 0; op <= 8; op++) {
            if (probe.operate(kind, op, 0, 1, 2) != NumberProbe.DONE || probe.bits(kind, 2) != wanted(kind, op, x, y)) {
                String what = "kind " + kind + ": " + x + " op " + op + " " + y;
                Bench.due(what, probe.bits(kind, 2), wanted(kind, op, x, y));
                Bench.due("is DONE", probe.operate(kind, op, 0, 1, 2), NumberProbe.DONE);
            }
        }
    }

    private static long wanted(int kind, int op, long x, long y) {
        return kind == Bench.SINGLES
            ? Bench.told(single(op, Bench.single(x), Bench.single(y)))
            : Bench.told(twofold(op, Bench.twofold(x), Bench.twofold(y)));
    }

    private static float single(int op, float x, float y) {
        switch (op) {
            case 0:
                return x + y;
            case 1:
                return x - y;
            case 2:
                return x * y;
            case 3:
                return x / y;
            case 4:
                return x % y;
            case 5:
                return Math.min(x, y);
            case 6:
                return Math.max(x, y);
            case 7:
                return -x;
            default:
                return Math.abs(x);
        }
    }

    private static double twofold(int op, double x, double y) {
        switch (op) {
            case 0:
                return x + y;
            case 1:
                return x - y;
            case 2:
                return x * y;
            case 3:
                return x / y;
            case 4:
                return x % y;
            case 5:
                return Math.min(x, y);
            case 6:
                return Math.max(x, y);
            case 7:
                return -x;
            default:
                return Math.abs(x);
        }
    }

    /** a, b and to may be any numbers, the same ones too, and only number to changes. */
    private static void choosesNumbers(int kind) {
        for (int a = 0; a < 6; a++) {
            for (int b = 0; b < 6; b++) {
                int to = (a + 2 * b) % 6;
                NumberProbe x = Bench.filled();
                String call = "operate(" + kind + ", 1, " + a + ", " + b + ", " + to + ")";
                Bench.due(call, x.operate(kind, 1, a, b, to), NumberProbe.DONE);
                long want = wanted(kind, 1, Bench.filling(kind, a), Bench.filling(kind, b));
                Bench.due("bits after " + call, x.bits(kind, to), want);
                for (int other = 0; other < 4; other++) {
                    Bench.unchangedBut(call, x, other, other == kind ? to : -1);
                }
            }
        }
    }

    private static void keepsTheDocumentsEdges() {
        singleIs("greatest + half its last place", 0, 0x7F7FFFFF, 0x73000000, 0x7F800000);
        singleIs("greatest + a bit less than half", 0, 0x7F7FFFFF, 0x72FFFFFF, 0x7F7FFFFF);
        singleIs("1 + half a last place, even", 0, 0x3F800000, 0x33800000, 0x3F800000);
        singleIs("1 + half a last place, odd", 0, 0x3F800001, 0x33800000, 0x3F800002);
        singleIs("least / 2, to even", 3, 0x00000001, 0x40000000, 0x00000000);
        singleIs("3 least / 2, to even", 3, 0x00000003, 0x40000000, 0x00000002);
        singleIs("1 - 1", 1, 0x3F800000, 0x3F800000, 0x00000000);
        singleIs("-0 + -0", 0, 0x80000000, 0x80000000, 0x80000000);
        singleIs("-0 - -0", 1, 0x80000000, 0x80000000, 0x00000000);
        singleIs("-1 / 0", 3, 0xBF800000, 0x00000000, 0xFF800000);
        singleIs("-1 / -0", 3, 0xBF800000, 0x80000000, 0x7F800000);
        singleIs("0 / 0", 3, 0x00000000, 0x80000000, 0x7FC00000);
        singleIs("infinity / infinity", 3, 0x7F800000, 0xFF800000, 0x7FC00000);
        singleIs("0 * infinity", 2, 0x80000000, 0x7F800000, 0x7FC00000);
        singleIs("infinity - infinity", 1, 0x7F800000, 0x7F800000, 0x7FC00000);
        singleIs("-3 rest by 3", 4, 0xC0400000, 0x40400000, 0x80000000);
        singleIs("-1 rest by infinity", 4, 0xBF800000, 0x7F800000, 0xBF800000);
        singleIs("1 rest by 0", 4, 0x3F800000, 0x00000000, 0x7FC00000);
        singleIs("infinity rest by 1", 4, 0x7F800000, 0x3F800000, 0x7FC00000);
        singleIs("greatest rest by 3 least", 4, 0x7F7FFFFF, 0x00000003, 0x00000000);
        singleIs("the lesser of 0 and -0", 5, 0x00000000, 0x80000000, 0x80000000);
        singleIs("the greater of -0 and 0", 6, 0x80000000, 0x00000000, 0x00000000);
        singleIs("the lesser of 1 and NaN", 5, 0x3F800000, 0x7FC00000, 0x7FC00000);
        singleIs("-x of a NaN", 7, 0x7FC00000, 0x00000000, 0x7FC00000);
        singleIs("-x of 0", 7, 0x00000000, 0x00000000, 0x80000000);
        singleIs("-0 without its sign", 8, 0x80000000, 0x00000000, 0x00000000);
    }

    private static void singleIs(String what, int op, int x, int y, int want) {
        NumberProbe probe = new NumberProbe();
        probe.put(Bench.SINGLES, 0, x);
        probe.put(Bench.SINGLES, 1, y);
        Bench.due(what, probe.operate(Bench.SINGLES, op, 0, 1, 2), NumberProbe.DONE);
        Bench.due(what, probe.bits(Bench.SINGLES, 2), want);
    }

    private static void refuses(int kind) {
        NumberProbe x = Bench.filled();
        for (int op : new int[] {-1, 9, 10, 14, 15, Integer.MIN_VALUE, Integer.MAX_VALUE}) {
            Bench.refused("operate(" + kind + ", " + op + ", 0, 1, 2)", x, x.operate(kind, op, 0, 1, 2));
        }
        for (int i : Bench.NO_NUMBERS) {
            x = Bench.filled();
            Bench.refused("operate(" + kind + ", 0, " + i + ", 1, 2)", x, x.operate(kind, 0, i, 1, 2));
            Bench.refused("operate(" + kind + ", 0, 0, " + i + ", 2)", x, x.operate(kind, 0, 0, i, 2));
            Bench.refused("operate(" + kind + ", 0, 0, 1, " + i + ")", x, x.operate(kind, 0, 0, 1, i));
            Bench.refused("operate(" + kind + ", 7, 0, " + i + ", 2)", x, x.operate(kind, 7, 0, i, 2));
        }
    }
}
