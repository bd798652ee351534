/** Promise 5: operate on INTS and LONGS, against Java's own ints and longs. */
public final class OperateWholeTest {
    public static void main(String[] args) {
        for (int kind = 2; kind < 4; kind++) {
            for (long x : Bench.samples(kind)) {
                for (long y : Bench.samples(kind)) {
                    operatesAll(kind, x, y);
                }
            }
            refuses(kind);
            dividesByZero(kind);
        }
        refusesNoKind();
        Bench.end();
    }

    private static void operatesAll(int kind, long x, long y) {
        NumberProbe probe = new NumberProbe();
        probe.put(kind, 4, x);
        probe.put(kind, 5, y);
        for (int op = 0; op <= 14; op++) {
            if ((op == 3 || op == 4) && y == 0) {
                continue;
            }
            Bench.due("operate(" + kind + ", " + op + ", ..)", probe.operate(kind, op, 4, 5, 1), NumberProbe.DONE);
            long want = kind == Bench.INTS ? Reckoner.reckoned(op, (int) x, (int) y) : Reckoner.reckoned(op, x, y);
            if (probe.bits(kind, 1) != want) {
                Bench.due("kind " + kind + ": " + x + " op " + op + " " + y, probe.bits(kind, 1), want);
            }
        }
    }

    private static void dividesByZero(int kind) {
        for (int op = 3; op <= 4; op++) {
            NumberProbe probe = Bench.filled();
            probe.put(kind, 1, 0);
            String call = "operate(" + kind + ", " + op + ", 0, 1, 2)";
            Bench.due(call, probe.operate(kind, op, 0, 1, 2), NumberProbe.DIVIDE);
            Bench.due("operate of 0 and 0", probe.operate(kind, op, 1, 1, 2), NumberProbe.DIVIDE);
            Bench.due("operate of 0 by another", probe.operate(kind, op, 1, 0, 1), NumberProbe.DONE);
            for (int other = 0; other < 4; other++) {
                Bench.unchangedBut(call, probe, other, other == kind ? 1 : -1);
            }
            Bench.due(call + " out of range", probe.operate(kind, op, 0, 1, 6), NumberProbe.REFUSED);
        }
    }

    private static void refuses(int kind) {
        NumberProbe x = Bench.filled();
        for (int op : new int[] {-1, 15, 16, Integer.MIN_VALUE, Integer.MAX_VALUE}) {
            Bench.refused("operate(" + kind + ", " + op + ", 0, 1, 2)", x, x.operate(kind, op, 0, 1, 2));
        }
        for (int i : Bench.NO_NUMBERS) {
            x = Bench.filled();
            Bench.refused("operate(" + kind + ", 0, " + i + ", 1, 2)", x, x.operate(kind, 0, i, 1, 2));
            Bench.refused("operate(" + kind + ", 0, 0, " + i + ", 2)", x, x.operate(kind, 0, 0, i, 2));
            Bench.refused("operate(" + kind + ", 0, 0, 1, " + i + ")", x, x.operate(kind, 0, 0, 1, i));
        }
    }

    private static void refusesNoKind() {
        NumberProbe x = Bench.filled();
        for (int kind : Bench.NO_KINDS) {
            Bench.refused("operate(" + kind + ", 0, 0, 1, 2)", x, x.operate(kind, 0, 0, 1, 2));
        }
    }
}
