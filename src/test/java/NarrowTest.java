/** Promise 8: narrow, against Java's own casts. */
public final class NarrowTest {
    public static void main(String[] args) {
        for (int kind = 0; kind < 4; kind++) {
            for (long bits : Bench.samples(kind)) {
                narrows(kind, bits);
            }
        }
        keepsEdges();
        answersZeroOutOfRange();
        Bench.end();
    }

    private static void narrows(int kind, long bits) {
        int number = asInt(kind, bits);
        answers(kind, bits, 0, (byte) number);
        answers(kind, bits, 1, (char) number);
        answers(kind, bits, 2, (short) number);
        answers(kind, bits, 3, number);
    }

    private static int asInt(int kind, long bits) {
        switch (kind) {
            case Bench.SINGLES:
                return (int) Bench.single(bits);
            case Bench.DOUBLES:
                return (int) Bench.twofold(bits);
            default:
                return (int) bits;
        }
    }

    private static void answers(int kind, long bits, int to, int want) {
        NumberProbe x = new NumberProbe();
        x.put(kind, 5, bits);
        Bench.due("narrow(" + kind + ", 5, " + to + ") of " + bits, x.narrow(kind, 5, to), want);
        Bench.due("bits after narrow", x.bits(kind, 5), bits);
    }

    private static void keepsEdges() {
        answers(Bench.INTS, 128, 0, -128);
        answers(Bench.INTS, -129, 0, 127);
        answers(Bench.INTS, -1, 1, 65535);
        answers(Bench.INTS, 65536, 1, 0);
        answers(Bench.INTS, 32768, 2, -32768);
        answers(Bench.LONGS, 0x1FFFFFFFFL, 3, -1);
        answers(Bench.LONGS, Long.MAX_VALUE, 3, -1);
        // By way of an INT: the nearest one to 1e10 ends in ones.
        answers(Bench.DOUBLES, Bench.told(1e10), 0, -1);
        answers(Bench.DOUBLES, Bench.told(1e10), 3, Integer.MAX_VALUE);
        answers(Bench.SINGLES, Bench.told(-1e10f), 2, 0);
        answers(Bench.SINGLES, Bench.told(Float.NaN), 3, 0);
    }

    private static void answersZeroOutOfRange() {
        NumberProbe x = Bench.filled();
        for (int kind = 0; kind < 4; kind++) {
            for (int i : Bench.NO_NUMBERS) {
                Bench.due("narrow(" + kind + ", " + i + ", 3)", x.narrow(kind, i, 3), 0);
            }
            for (int to : new int[] {-1, 4, 5, Integer.MIN_VALUE, Integer.MAX_VALUE}) {
                Bench.due("narrow(" + kind + ", 0, " + to + ")", x.narrow(kind, 0, to), 0);
            }
        }
        for (int kind : Bench.NO_KINDS) {
            Bench.due("narrow(" + kind + ", 0, 3)", x.narrow(kind, 0, 3), 0);
        }
        Bench.unchanged("narrow", x);
    }
}
