/** Promise 3: boundary, with the BOUNDARY values of the terms. */
public final class BoundaryTest {
    static final float[] SINGLES = {
        0.0f, -0.0f, 1.0f, -1.0f, Float.MIN_VALUE, Math.nextDown(Float.MIN_NORMAL), Float.MIN_NORMAL, Float.MAX_VALUE,
        Float.POSITIVE_INFINITY, Float.NEGATIVE_INFINITY, Float.NaN, Math.nextUp(1.0f), Math.nextDown(1.0f),
        16777217, 9007199254740993L, 0x1p31f, -0x1p31f, 0x1p63f, -0x1p63f, 2147483647, 9223372036854775807L,
    };

    static final double[] DOUBLES = {
        0.0, -0.0, 1.0, -1.0, Double.MIN_VALUE, Math.nextDown(Double.MIN_NORMAL), Double.MIN_NORMAL, Double.MAX_VALUE,
        Double.POSITIVE_INFINITY, Double.NEGATIVE_INFINITY, Double.NaN, Math.nextUp(1.0), Math.nextDown(1.0),
        16777217, 9007199254740993L, 0x1p31, -0x1p31, 0x1p63, -0x1p63, 2147483647, 9223372036854775807L,
    };

    static final int[] INTS = {
        0, -1, 1, Integer.MIN_VALUE, Integer.MAX_VALUE, 127, 128, -129, 255, 32767, 32768, -32769, 65535, 65536,
        16777217,
    };

    static final long[] LONGS = {
        0, -1, 1, Long.MIN_VALUE, Long.MAX_VALUE, 127, 128, -129, 255, 32767, 32768, -32769, 65535, 65536,
        16777217, 2147483648L, -2147483649L, 4294967296L, 9007199254740993L, 9007199254740991L,
        4611686018427387904L + 512 + 1,
    };

    public static void main(String[] args) {
        for (int which = 0; which <= 20; which++) {
            becomes(Bench.SINGLES, which, Bench.told(SINGLES[which]));
            becomes(Bench.DOUBLES, which, Bench.told(DOUBLES[which]));
            becomes(Bench.LONGS, which, LONGS[which]);
        }
        for (int which = 0; which <= 14; which++) {
            becomes(Bench.INTS, which, INTS[which]);
        }
        refuses();
        Bench.end();
    }

    private static void becomes(int kind, int which, long want) {
        int i = which % 6;
        NumberProbe x = Bench.filled();
        String call = "boundary(" + kind + ", " + i + ", " + which + ")";
        Bench.due(call, x.boundary(kind, i, which), NumberProbe.DONE);
        Bench.due("bits after " + call, x.bits(kind, i), want);
        for (int other = 0; other < 4; other++) {
            Bench.unchangedBut(call, x, other, other == kind ? i : -1);
        }
    }

    private static void refuses() {
        for (int kind = 0; kind < 4; kind++) {
            NumberProbe x = Bench.filled();
            for (int which : new int[] {-1, kind == Bench.INTS ? 15 : 21, 22, Integer.MIN_VALUE, Integer.MAX_VALUE}) {
                Bench.refused("boundary(" + kind + ", 1, " + which + ")", x, x.boundary(kind, 1, which));
            }
            x = Bench.filled();
            for (int i : Bench.NO_NUMBERS) {
                Bench.refused("boundary(" + kind + ", " + i + ", 2)", x, x.boundary(kind, i, 2));
            }
        }
        NumberProbe x = Bench.filled();
        for (int kind : Bench.NO_KINDS) {
            Bench.refused("boundary(" + kind + ", 1, 2)", x, x.boundary(kind, 1, 2));
        }
    }
}
