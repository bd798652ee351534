/** Promise 5: operate on INTS and LONGS, against Java's own ints and longs. */
public final class OperateWholeTest {
    public static void main(String[] args) {
        for (int kind = 2; kind < 4; kind++) {
            for (long x : Bench.samples(kind)) {
                for (long y : Bench.samples(kind)) {
                    operatesAll(kind, x, y);
                }
            }
            refuses(kind);
            dividesByZero(kind);
        }
        shiftsByLowBits();
        refusesNoKind();
        Bench.end();
    }

    private static void operatesAll(int kind, long x, long y) {
        NumberProbe probe = new NumberProbe();
        probe.put(kind, 4, x);
        probe.put(kind, 5, y);
        for (int op = 0; op <= 14; op++) {
            if ((op == 3 || op == 4) && y == 0) {
                continue;
            }
            Bench.due("operate(" + kind + ", " + op + ", ..)", probe.operate(kind, op, 4, 5, 1), NumberProbe.DONE);
            long want = kind == Bench.INTS ? whole(op, (int) x, (int) y) : whole(op, x, y);
            if (probe.bits(kind, 1) != want) {
                Bench.due("kind " + kind + ": " + x + " op " + op + " " + y, probe.bits(kind, 1), want);
            }
        }
    }

    private static int whole(int op, int x, int y) {
        switch (op) {
            case 0:
                return x + y;
            case 1:
                return x - y;
            case 2:
                return x * y;
            case 3:
                return x / y;
            case 4:
                return x % y;
            case 5:
                return x < y ? x : y;
            case 6:
                return x > y ? x : y;
            case 7:
                return -x;
            case 8:
                return x < 0 ? -x : x;
            case 9:
                return x << y;
            case 10:
                return x >> y;
            case 11:
                return x >>> y;
            case 12:
                return x & y;
            case 13:
                return x | y;
            default:
                return x ^ y;
        }
    }

    private static long whole(int op, long x, long y) {
        switch (op) {
            case 0:
                return x + y;
            case 1:
                return x - y;
            case 2:
                return x * y;
            case 3:
                return x / y;
            case 4:
                return x % y;
            case 5:
                return x < y ? x : y;
            case 6:
                return x > y ? x : y;
            case 7:
                return -x;
            case 8:
                return x < 0 ? -x : x;
            case 9:
                return x << y;
            case 10:
                return x >> y;
            case 11:
                return x >>> y;
            case 12:
                return x & y;
            case 13:
                return x | y;
            default:
                return x ^ y;
        }
    }

    private static void shiftsByLowBits() {
        becomes(Bench.INTS, 9, 1, 33, 2);
        becomes(Bench.INTS, 9, 1, -1, Integer.MIN_VALUE);
        becomes(Bench.INTS, 10, -8, 34, -2);
        becomes(Bench.INTS, 11, -1, 63, 1);
        becomes(Bench.LONGS, 9, 1, 65, 2);
        becomes(Bench.LONGS, 9, 1, 33, 0x200000000L);
        becomes(Bench.LONGS, 10, -8, 0x100000001L, -4);
        becomes(Bench.LONGS, 11, -1, -1, 1);
        becomes(Bench.INTS, 3, Integer.MIN_VALUE, -1, Integer.MIN_VALUE);
        becomes(Bench.LONGS, 3, Long.MIN_VALUE, -1, Long.MIN_VALUE);
        becomes(Bench.LONGS, 4, Long.MIN_VALUE, -1, 0);
        becomes(Bench.INTS, 3, -7, 2, -3);
        becomes(Bench.INTS, 4, -7, 2, -1);
    }

    private static void becomes(int kind, int op, long x, long y, long want) {
        NumberProbe probe = new NumberProbe();
        probe.put(kind, 0, x);
        probe.put(kind, 1, y);
        Bench.due("operate(" + kind + ", " + op + ", 0, 1, 0)", probe.operate(kind, op, 0, 1, 0), NumberProbe.DONE);
        Bench.due("kind " + kind + ": " + x + " op " + op + " " + y, probe.bits(kind, 0), want);
    }

    private static void dividesByZero(int kind) {
        for (int op = 3; op <= 4; op++) {
            NumberProbe probe = Bench.filled();
            probe.put(kind, 1, 0);
            String call = "operate(" + kind + ", " + op + ", 0, 1, 2)";
            Bench.due(call, probe.operate(kind, op, 0, 1, 2), NumberProbe.DIVIDE);
            Bench.due("operate of 0 and 0", probe.operate(kind, op, 1, 1, 2), NumberProbe.DIVIDE);
            Bench.due("operate of 0 by another", probe.operate(kind, op, 1, 0, 1), NumberProbe.DONE);
            for (int other = 0; other < 4; other++) {
                Bench.unchangedBut(call, probe, other, other == kind ? 1 : -1);
            }
            Bench.due(call + " out of range", probe.operate(kind, op, 0, 1, 6), NumberProbe.REFUSED);
        }
    }

    private static void refuses(int kind) {
        NumberProbe x = Bench.filled();
        for (int op : new int[] {-1, 15, 16, Integer.MIN_VALUE, Integer.MAX_VALUE}) {
            Bench.refused("operate(" + kind + ", " + op + ", 0, 1, 2)", x, x.operate(kind, op, 0, 1, 2));
        }
        for (int i : Bench.NO_NUMBERS) {
            x = Bench.filled();
            Bench.refused("operate(" + kind + ", 0, " + i + ", 1, 2)", x, x.operate(kind, 0, i, 1, 2));
            Bench.refused("operate(" + kind + ", 0, 0, " + i + ", 2)", x, x.operate(kind, 0, 0, i, 2));
            Bench.refused("operate(" + kind + ", 0, 0, 1, " + i + ")", x, x.operate(kind, 0, 0, 1, i));
        }
    }

    private static void refusesNoKind() {
        NumberProbe x = Bench.filled();
        for (int kind : Bench.NO_KINDS) {
            Bench.refused("operate(" + kind + ", 0, 0, 1, 2)", x, x.operate(kind, 0, 0, 1, 2));
        }
    }
}
