/** Terms, the BOUNDARY values of each kind, their bits written out; and the numbers beside the first and last one. */
public final class BoundaryBitsTest {
    private static final long[] SINGLES = {
        0x00000000, 0x80000000, 0x3F800000, 0xBF800000, 0x00000001, 0x007FFFFF, 0x00800000,
        0x7F7FFFFF, 0x7F800000, 0xFF800000, 0x7FC00000, 0x3F800001, 0x3F7FFFFF, 0x4B800000,
        0x5A000000, 0x4F000000, 0xCF000000, 0x5F000000, 0xDF000000, 0x4F000000, 0x5F000000,
    };

    private static final long[] DOUBLES = {
        0x0000000000000000L, 0x8000000000000000L, 0x3FF0000000000000L, 0xBFF0000000000000L, 0x0000000000000001L,
        0x000FFFFFFFFFFFFFL, 0x0010000000000000L, 0x7FEFFFFFFFFFFFFFL, 0x7FF0000000000000L, 0xFFF0000000000000L,
        0x7FF8000000000000L, 0x3FF0000000000001L, 0x3FEFFFFFFFFFFFFFL, 0x4170000010000000L, 0x4340000000000000L,
        0x41E0000000000000L, 0xC1E0000000000000L, 0x43E0000000000000L, 0xC3E0000000000000L, 0x41DFFFFFFFC00000L,
        0x43E0000000000000L,
    };

    private static final long[] INTS = {
        0, -1, 1, -2147483648, 2147483647, 127, 128, -129, 255, 32767, 32768, -32769, 65535, 65536, 16777217,
    };

    private static final long[] LONGS = {
        0, -1, 1, 0x8000000000000000L, 0x7FFFFFFFFFFFFFFFL, 127, 128, -129, 255, 32767, 32768, -32769, 65535, 65536,
        16777217, 2147483648L, -2147483649L, 4294967296L, 9007199254740993L, 9007199254740991L, 4611686018427388417L,
    };

    private static final long[][] VALUES = {SINGLES, DOUBLES, INTS, LONGS};

    public static void main(String[] args) {
        for (int kind = 0; kind < 4; kind++) {
            Bench.due("how many values kind " + kind + " has", VALUES[kind].length, kind == Bench.INTS ? 15 : 21);
            everyNumberBecomesEveryValue(kind);
            refusesBelowAndAbove(kind);
        }
        Bench.end();
    }

    private static void everyNumberBecomesEveryValue(int kind) {
        for (int i = 0; i < 6; i++) {
            NumberProbe x = Bench.filled();
            for (int which = 0; which < VALUES[kind].length; which++) {
                String call = "boundary(" + kind + ", " + i + ", " + which + ")";
                Bench.due(call, x.boundary(kind, i, which), NumberProbe.DONE);
                Bench.due(call + ", then bits", x.bits(kind, i), VALUES[kind][which]);
            }
        }
    }

    private static void refusesBelowAndAbove(int kind) {
        int last = VALUES[kind].length - 1;
        for (int i = 0; i < 6; i++) {
            NumberProbe x = Bench.filled();
            Bench.refused("boundary(" + kind + ", " + i + ", -1)", x, x.boundary(kind, i, -1));
            Bench.refused("boundary(" + kind + ", " + i + ", " + (last + 1) + ")", x, x.boundary(kind, i, last + 1));
        }
    }
}
