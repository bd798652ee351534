/** Promise 4: bits. */
public final class BitsTest {
    public static void main(String[] args) {
        NumberProbe x = new NumberProbe();
        x.put(Bench.SINGLES, 5, 0xBF800000L);
        Bench.due("bits of the SINGLE -1.0, as an int", x.bits(Bench.SINGLES, 5), 0xBF800000);
        x.put(Bench.INTS, 5, 0xFFFFFFFEL);
        Bench.due("bits of the INT -2", x.bits(Bench.INTS, 5), -2);
        x.put(Bench.DOUBLES, 5, 0xBFF0000000000000L);
        Bench.due("bits of the DOUBLE -1.0", x.bits(Bench.DOUBLES, 5), 0xBFF0000000000000L);
        x.put(Bench.LONGS, 5, Long.MIN_VALUE);
        Bench.due("bits of the least LONG", x.bits(Bench.LONGS, 5), Long.MIN_VALUE);
        tellsEveryNaNAlike(x);
        answersZeroOutOfRange();
        Bench.end();
    }

    private static void tellsEveryNaNAlike(NumberProbe x) {
        x.boundary(Bench.SINGLES, 0, 8);
        x.boundary(Bench.DOUBLES, 0, 8);
        x.operate(Bench.SINGLES, 1, 0, 0, 1);
        x.operate(Bench.DOUBLES, 1, 0, 0, 1);
        Bench.due("bits of infinity - infinity", x.bits(Bench.SINGLES, 1), 0x7FC00000L);
        Bench.due("bits of infinity - infinity", x.bits(Bench.DOUBLES, 1), 0x7FF8000000000000L);
        x.operate(Bench.SINGLES, 7, 1, 1, 2);
        x.operate(Bench.DOUBLES, 7, 1, 1, 2);
        Bench.due("bits of -NaN", x.bits(Bench.SINGLES, 2), 0x7FC00000L);
        Bench.due("bits of -NaN", x.bits(Bench.DOUBLES, 2), 0x7FF8000000000000L);
    }

    private static void answersZeroOutOfRange() {
        NumberProbe x = Bench.filled();
        for (int kind = 0; kind < 4; kind++) {
            for (int i : Bench.NO_NUMBERS) {
                Bench.due("bits(" + kind + ", " + i + ")", x.bits(kind, i), 0);
            }
        }
        for (int kind : Bench.NO_KINDS) {
            Bench.due("bits(" + kind + ", 0)", x.bits(kind, 0), 0);
        }
    }
}
