/** Promise 10: order, against the Java library's order of the same numbers. */
public final class OrderTest {
    public static void main(String[] args) {
        for (int kind = 0; kind < 4; kind++) {
            for (long a : Bench.samples(kind)) {
                for (long b : Bench.samples(kind)) {
                    orders(kind, a, b, wanted(kind, a, b));
                }
            }
            refuses(kind);
        }
        minusZeroIsBeforeZero();
        aNaNIsBehindAllOthers();
        allNaNsAreAlike();
        theEndsOfEveryKind();
        refusesNoKind();
        Bench.end();
    }

    private static void orders(int kind, long a, long b, int want) {
        NumberProbe x = new NumberProbe();
        x.put(kind, 0, a);
        x.put(kind, 5, b);
        int got = x.order(kind, 0, 5);
        if (got != want) {
            Bench.due("order of " + a + " and " + b + " of kind " + kind, got, want);
        }
    }

    private static int wanted(int kind, long a, long b) {
        switch (kind) {
            case Bench.SINGLES:
                return Float.compare(Bench.single(a), Bench.single(b));
            case Bench.DOUBLES:
                return Double.compare(Bench.twofold(a), Bench.twofold(b));
            default:
                return Long.compare(a, b);
        }
    }

    private static void minusZeroIsBeforeZero() {
        orders(Bench.SINGLES, 0x80000000, 0x00000000, -1);
        orders(Bench.SINGLES, 0x00000000, 0x80000000, 1);
        orders(Bench.SINGLES, 0x80000000, 0x80000000, 0);
        orders(Bench.SINGLES, 0x80000001, 0x80000000, -1);
        orders(Bench.DOUBLES, Long.MIN_VALUE, 0, -1);
        orders(Bench.DOUBLES, 0, Long.MIN_VALUE, 1);
        orders(Bench.DOUBLES, Long.MIN_VALUE, Long.MIN_VALUE, 0);
        orders(Bench.DOUBLES, 0x8000000000000001L, Long.MIN_VALUE, -1);
    }

    private static void aNaNIsBehindAllOthers() {
        for (long other : new long[] {0, 0x80000000, 0x7F7FFFFF, 0x7F800000, 0xFF800000}) {
            orders(Bench.SINGLES, 0xFFC00000, other, 1);
            orders(Bench.SINGLES, other, 0x7FC00000, -1);
        }
        long[] doubles = {0, Long.MIN_VALUE, 0x7FEFFFFFFFFFFFFFL, 0x7FF0000000000000L, 0xFFF0000000000000L};
        for (long other : doubles) {
            orders(Bench.DOUBLES, 0xFFF8000000000000L, other, 1);
            orders(Bench.DOUBLES, other, 0x7FF8000000000000L, -1);
        }
    }

    private static void allNaNsAreAlike() {
        orders(Bench.SINGLES, 0xFFC00001, 0x7F800001, 0);
        orders(Bench.SINGLES, 0x7FC00000, 0xFFFFFFFF, 0);
        orders(Bench.DOUBLES, 0xFFF8000000000001L, 0x7FF0000000000001L, 0);
        orders(Bench.DOUBLES, 0x7FF8000000000000L, -1L, 0);
    }

    private static void theEndsOfEveryKind() {
        orders(Bench.SINGLES, 0xFF800000, 0xFF7FFFFF, -1);
        orders(Bench.DOUBLES, 0x7FF0000000000000L, 0x7FEFFFFFFFFFFFFFL, 1);
        orders(Bench.DOUBLES, Bench.told(-2.0), Bench.told(-1.0), -1);
        orders(Bench.INTS, Integer.MIN_VALUE, Integer.MAX_VALUE, -1);
        orders(Bench.INTS, Integer.MAX_VALUE, Integer.MIN_VALUE, 1);
        orders(Bench.INTS, Integer.MIN_VALUE, Integer.MIN_VALUE, 0);
        orders(Bench.LONGS, Long.MAX_VALUE, Long.MIN_VALUE, 1);
        orders(Bench.LONGS, Long.MIN_VALUE, Long.MAX_VALUE, -1);
        orders(Bench.LONGS, 0x100000000L, 0, 1);
    }

    private static void refuses(int kind) {
        NumberProbe x = Bench.filled();
        for (int i : Bench.NO_NUMBERS) {
            Bench.refused("order(" + kind + ", " + i + ", 0)", x, x.order(kind, i, 0));
            Bench.refused("order(" + kind + ", 0, " + i + ")", x, x.order(kind, 0, i));
        }
    }

    private static void refusesNoKind() {
        NumberProbe x = Bench.filled();
        for (int kind : Bench.NO_KINDS) {
            Bench.refused("order(" + kind + ", 0, 1)", x, x.order(kind, 0, 1));
        }
    }
}
