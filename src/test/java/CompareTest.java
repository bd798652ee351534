/** Promise 9: compare, against Java's own comparisons. */
public final class CompareTest {
    private static final int LESS = 1 + 2 + 32 + 128;
    private static final int EQUAL = 2 + 8 + 16 + 64;
    private static final int GREATER = 4 + 8 + 32 + 64;
    private static final int WITH_NAN = 32 + 64 + 128;

    public static void main(String[] args) {
        for (int kind = 0; kind < 4; kind++) {
            for (long a : Bench.samples(kind)) {
                for (long b : Bench.samples(kind)) {
                    compares(kind, a, b, wanted(kind, a, b));
                }
            }
            refuses(kind);
        }
        zerosOfBothSignsAreEqual();
        withANaNNothingHoldsButNot();
        theEndsOfEveryKind();
        refusesNoKind();
        Bench.end();
    }

    private static void compares(int kind, long a, long b, int want) {
        NumberProbe x = new NumberProbe();
        x.put(kind, 3, a);
        x.put(kind, 4, b);
        int got = x.compare(kind, 3, 4);
        if (got != want) {
            Bench.due("compare of " + a + " and " + b + " of kind " + kind, got, want);
        }
    }

    private static int wanted(int kind, long a, long b) {
        switch (kind) {
            case Bench.SINGLES:
                // Widening keeps the order.
                return wanted(Bench.single(a), Bench.single(b));
            case Bench.DOUBLES:
                return wanted(Bench.twofold(a), Bench.twofold(b));
            default:
                return bit(0, a < b) | bit(1, a <= b) | bit(2, a > b) | bit(3, a >= b) | bit(4, a == b)
                    | bit(5, a != b) | bit(6, !(a < b)) | bit(7, !(a >= b));
        }
    }

    private static int wanted(double a, double b) {
        return bit(0, a < b) | bit(1, a <= b) | bit(2, a > b) | bit(3, a >= b) | bit(4, a == b)
            | bit(5, a != b) | bit(6, !(a < b)) | bit(7, !(a >= b));
    }

    private static int bit(int number, boolean set) {
        return set ? 1 << number : 0;
    }

    private static void zerosOfBothSignsAreEqual() {
        compares(Bench.SINGLES, 0x80000000, 0x00000000, EQUAL);
        compares(Bench.SINGLES, 0x00000000, 0x80000000, EQUAL);
        compares(Bench.DOUBLES, 0x8000000000000000L, 0, EQUAL);
        compares(Bench.DOUBLES, 0, 0x8000000000000000L, EQUAL);
        compares(Bench.SINGLES, 0x80000000, 0x00000001, LESS);
        compares(Bench.SINGLES, 0x00000000, 0x80000001, GREATER);
        compares(Bench.DOUBLES, 0x8000000000000000L, 1, LESS);
        compares(Bench.DOUBLES, 0, 0x8000000000000001L, GREATER);
    }

    private static void withANaNNothingHoldsButNot() {
        for (long other : new long[] {0, 0x80000000, 0x3F800000, 0xBF800000, 0x7F800000, 0xFF800000, 0x7FC00000}) {
            compares(Bench.SINGLES, 0x7FC00000, other, WITH_NAN);
            compares(Bench.SINGLES, other, 0xFFC00001, WITH_NAN);
        }
        for (long other : new long[] {0, Long.MIN_VALUE, 0x7FF0000000000000L, 0xFFF0000000000000L, -1L}) {
            compares(Bench.DOUBLES, 0x7FF8000000000000L, other, WITH_NAN);
            compares(Bench.DOUBLES, other, 0xFFF0000000000001L, WITH_NAN);
        }
        NumberProbe x = new NumberProbe();
        x.boundary(Bench.SINGLES, 2, 10);
        Bench.due("compare(0, 2, 2) of a NaN", x.compare(Bench.SINGLES, 2, 2), WITH_NAN);
        Bench.due("compare(0, 1, 1) of a zero", x.compare(Bench.SINGLES, 1, 1), EQUAL);
    }

    private static void theEndsOfEveryKind() {
        compares(Bench.SINGLES, 0xFF800000, 0xFF7FFFFF, LESS);
        compares(Bench.SINGLES, 0x7F800000, 0x7F7FFFFF, GREATER);
        compares(Bench.SINGLES, 0x7F800000, 0x7F800000, EQUAL);
        compares(Bench.DOUBLES, 0xFFF0000000000000L, 0xFFEFFFFFFFFFFFFFL, LESS);
        compares(Bench.DOUBLES, 0x7FF0000000000000L, 0xFFF0000000000000L, GREATER);
        compares(Bench.DOUBLES, Bench.told(-2.0), Bench.told(-1.0), LESS);
        compares(Bench.INTS, Integer.MIN_VALUE, Integer.MAX_VALUE, LESS);
        compares(Bench.INTS, Integer.MAX_VALUE, Integer.MIN_VALUE, GREATER);
        compares(Bench.INTS, -1, -1, EQUAL);
        compares(Bench.LONGS, Long.MAX_VALUE, Long.MIN_VALUE, GREATER);
        compares(Bench.LONGS, Long.MIN_VALUE, Long.MAX_VALUE, LESS);
        // One apart, but alike as DOUBLES.
        compares(Bench.LONGS, 9007199254740992L, 9007199254740993L, LESS);
    }

    private static void refuses(int kind) {
        NumberProbe x = Bench.filled();
        for (int i : Bench.NO_NUMBERS) {
            Bench.refused("compare(" + kind + ", " + i + ", 0)", x, x.compare(kind, i, 0));
            Bench.refused("compare(" + kind + ", 0, " + i + ")", x, x.compare(kind, 0, i));
        }
    }

    private static void refusesNoKind() {
        NumberProbe x = Bench.filled();
        for (int kind : Bench.NO_KINDS) {
            Bench.refused("compare(" + kind + ", 0, 1)", x, x.compare(kind, 0, 1));
        }
    }
}
