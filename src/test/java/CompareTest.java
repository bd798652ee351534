/** Promise 9: compare, against Java's own comparisons. */
public final class CompareTest {
    public static void main(String[] args) {
        for (int kind = 0; kind < 4; kind++) {
            for (long a : Bench.samples(kind)) {
                for (long b : Bench.samples(kind)) {
                    compares(kind, a, b, wanted(kind, a, b));
                }
            }
            refuses(kind);
        }
        keepsEdges();
        refusesNoKind();
        Bench.end();
    }

    private static void compares(int kind, long a, long b, int want) {
        NumberProbe x = new NumberProbe();
        x.put(kind, 3, a);
        x.put(kind, 4, b);
        int got = x.compare(kind, 3, 4);
        if (got != want) {
            Bench.due("compare of " + a + " and " + b + " of kind " + kind, got, want);
        }
    }

    private static int wanted(int kind, long a, long b) {
        switch (kind) {
            case Bench.SINGLES:
                // Widening keeps the order.
                return wanted(Bench.single(a), Bench.single(b));
            case Bench.DOUBLES:
                return wanted(Bench.twofold(a), Bench.twofold(b));
            default:
                return bit(0, a < b) | bit(1, a <= b) | bit(2, a > b) | bit(3, a >= b) | bit(4, a == b)
                    | bit(5, a != b) | bit(6, !(a < b)) | bit(7, !(a >= b));
        }
    }

    private static int wanted(double a, double b) {
        return bit(0, a < b) | bit(1, a <= b) | bit(2, a > b) | bit(3, a >= b) | bit(4, a == b)
            | bit(5, a != b) | bit(6, !(a < b)) | bit(7, !(a >= b));
    }

    private static int bit(int number, boolean set) {
        return set ? 1 << number : 0;
    }

    private static void keepsEdges() {
        compares(Bench.SINGLES, Bench.told(-0.0f), Bench.told(0.0f), 2 + 8 + 16 + 64);
        compares(Bench.DOUBLES, Bench.told(0.0), Bench.told(-0.0), 2 + 8 + 16 + 64);
        compares(Bench.SINGLES, 0x7FC00000L, 0x7FC00000L, 32 + 64 + 128);
        compares(Bench.DOUBLES, Bench.told(1.0), 0x7FF8000000000000L, 32 + 64 + 128);
        compares(Bench.DOUBLES, Bench.told(-2.0), Bench.told(-1.0), 1 + 2 + 32 + 128);
        compares(Bench.LONGS, Long.MAX_VALUE, Long.MIN_VALUE, 4 + 8 + 32 + 64);
        NumberProbe x = new NumberProbe();
        x.boundary(Bench.SINGLES, 2, 10);
        Bench.due("compare(0, 2, 2) of a NaN", x.compare(Bench.SINGLES, 2, 2), 224);
        Bench.due("compare(0, 1, 1) of a zero", x.compare(Bench.SINGLES, 1, 1), 90);
    }

    private static void refuses(int kind) {
        NumberProbe x = Bench.filled();
        for (int i : Bench.NO_NUMBERS) {
            Bench.refused("compare(" + kind + ", " + i + ", 0)", x, x.compare(kind, i, 0));
            Bench.refused("compare(" + kind + ", 0, " + i + ")", x, x.compare(kind, 0, i));
        }
    }

    private static void refusesNoKind() {
        NumberProbe x = Bench.filled();
        for (int kind : Bench.NO_KINDS) {
            Bench.refused("compare(" + kind + ", 0, 1)", x, x.compare(kind, 0, 1));
        }
    }
}
