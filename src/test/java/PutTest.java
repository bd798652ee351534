/** Promise 2: put. */
public final class PutTest {
    public static void main(String[] args) {
        for (int kind = 0; kind < 4; kind++) {
            putsEverySample(kind);
            changesOneNumber(kind);
        }
        takesLowBits();
        takesEveryNaN();
        refuses();
        Bench.end();
    }

    private static void putsEverySample(int kind) {
        NumberProbe x = new NumberProbe();
        for (long bits : Bench.samples(kind)) {
            puts(x, kind, bits, bits);
        }
    }

    private static void puts(NumberProbe x, int kind, long bits, long want) {
        Bench.due("put(" + kind + ", 3, " + bits + ")", x.put(kind, 3, bits), NumberProbe.DONE);
        Bench.due("then bits(" + kind + ", 3)", x.bits(kind, 3), want);
    }

    private static void changesOneNumber(int kind) {
        for (int i = 0; i < 6; i++) {
            NumberProbe x = Bench.filled();
            String call = "put(" + kind + ", " + i + ", 9)";
            Bench.due(call, x.put(kind, i, 9), NumberProbe.DONE);
            for (int other = 0; other < 4; other++) {
                Bench.unchangedBut(call, x, other, other == kind ? i : -1);
            }
            Bench.due("bits after " + call, x.bits(kind, i), 9);
        }
    }

    private static void takesLowBits() {
        NumberProbe x = new NumberProbe();
        puts(x, Bench.SINGLES, 0x123456783F800000L, 0x3F800000L);
        puts(x, Bench.SINGLES, 0x00000000BF800000L, 0xFFFFFFFFBF800000L);
        puts(x, Bench.SINGLES, 0xFFFFFFFF00000001L, 1);
        puts(x, Bench.INTS, 0x1234567800000005L, 5);
        puts(x, Bench.INTS, 0x0000000080000000L, -2147483648L);
        puts(x, Bench.INTS, 0xFFFFFFFF7FFFFFFFL, 2147483647L);
        puts(x, Bench.DOUBLES, 0x123456783F800000L, 0x123456783F800000L);
        puts(x, Bench.LONGS, 0x1234567800000005L, 0x1234567800000005L);
    }

    private static void takesEveryNaN() {
        NumberProbe x = new NumberProbe();
        long[] singles = {0x7F800001L, 0x7FBFFFFFL, 0x7FC00000L, 0x7FFFFFFFL, 0xFF800001L, 0xFFC00000L, -1L};
        for (long bits : singles) {
            puts(x, Bench.SINGLES, bits, 0x7FC00000L);
        }
        long[] doubles = {
            0x7FF0000000000001L, 0x7FF7FFFFFFFFFFFFL, 0x7FF8000000000000L, 0x7FFFFFFFFFFFFFFFL,
            0xFFF0000000000001L, 0xFFF8000000000000L, -1L,
        };
        for (long bits : doubles) {
            puts(x, Bench.DOUBLES, bits, 0x7FF8000000000000L);
        }
    }

    private static void refuses() {
        NumberProbe x = Bench.filled();
        for (int kind : Bench.NO_KINDS) {
            Bench.refused("put(" + kind + ", 0, 1)", x, x.put(kind, 0, 1));
        }
        x = Bench.filled();
        for (int i : Bench.NO_NUMBERS) {
            Bench.refused("put(0, " + i + ", 1)", x, x.put(0, i, 1));
            Bench.refused("put(3, " + i + ", 1)", x, x.put(3, i, 1));
        }
    }
}
