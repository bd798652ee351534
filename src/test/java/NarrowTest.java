/** Promise 8: narrow, against Java's own casts. */
public final class NarrowTest {
    public static void main(String[] args) {
        for (int kind = 0; kind < 4; kind++) {
            for (long bits : Bench.samples(kind)) {
                narrows(kind, bits);
            }
        }
        narrowsWholeOnes();
        narrowsLongsByTheirLowBits();
        narrowsFloatsByWayOfAnInt();
        answersZeroOutOfRange();
        Bench.end();
    }

    private static void narrows(int kind, long bits) {
        int number = asInt(kind, bits);
        answers(kind, bits, 0, (byte) number);
        answers(kind, bits, 1, (char) number);
        answers(kind, bits, 2, (short) number);
        answers(kind, bits, 3, number);
    }

    private static int asInt(int kind, long bits) {
        switch (kind) {
            case Bench.SINGLES:
                return (int) Bench.single(bits);
            case Bench.DOUBLES:
                return (int) Bench.twofold(bits);
            default:
                return (int) bits;
        }
    }

    private static void answers(int kind, long bits, int to, int want) {
        NumberProbe x = new NumberProbe();
        x.put(kind, 5, bits);
        Bench.due("narrow(" + kind + ", 5, " + to + ") of " + bits, x.narrow(kind, 5, to), want);
        Bench.due("bits after narrow", x.bits(kind, 5), bits);
    }

    private static void narrowsWholeOnes() {
        long[] wholes = {127, 128, 255, 256, -128, -129, 32767, 32768, -32768, -32769, 65535, 65536, -1, 2147483647};
        long[] bytes = {127, -128, -1, 0, -128, 127, -1, 0, 0, -1, -1, 0, -1, -1};
        long[] chars = {127, 128, 255, 256, 65408, 65407, 32767, 32768, 32768, 32767, 65535, 0, 65535, 65535};
        long[] shorts = {127, 128, 255, 256, -128, -129, 32767, -32768, -32768, 32767, -1, 0, -1, -1};
        for (int k = 0; k < wholes.length; k++) {
            for (int kind = Bench.INTS; kind <= Bench.LONGS; kind++) {
                answers(kind, wholes[k], 0, (int) bytes[k]);
                answers(kind, wholes[k], 1, (int) chars[k]);
                answers(kind, wholes[k], 2, (int) shorts[k]);
                answers(kind, wholes[k], 3, (int) wholes[k]);
            }
        }
    }

    private static void narrowsLongsByTheirLowBits() {
        answers(Bench.LONGS, 0x1FFFFFFFFL, 3, -1);
        answers(Bench.LONGS, Long.MAX_VALUE, 3, -1);
        answers(Bench.LONGS, Long.MIN_VALUE, 3, 0);
        answers(Bench.LONGS, 0x100000080L, 0, -128);
        answers(Bench.LONGS, 0x80000000L, 3, Integer.MIN_VALUE);
    }

    /** By way of an INT: the nearest one to 1e10 ends in ones, that to -1e10 in zeros. */
    private static void narrowsFloatsByWayOfAnInt() {
        for (int to = 0; to < 4; to++) {
            int greatest = to == 1 ? 65535 : to == 3 ? Integer.MAX_VALUE : -1;
            int least = to == 3 ? Integer.MIN_VALUE : 0;
            answers(Bench.SINGLES, Bench.told(1e10f), to, greatest);
            answers(Bench.DOUBLES, Bench.told(1e10), to, greatest);
            answers(Bench.SINGLES, Bench.told(Float.POSITIVE_INFINITY), to, greatest);
            answers(Bench.SINGLES, Bench.told(-1e10f), to, least);
            answers(Bench.DOUBLES, Bench.told(-1e10), to, least);
            answers(Bench.DOUBLES, Bench.told(Double.NEGATIVE_INFINITY), to, least);
            answers(Bench.SINGLES, Bench.told(Float.NaN), to, 0);
            answers(Bench.DOUBLES, Bench.told(Double.NaN), to, 0);
            answers(Bench.DOUBLES, Bench.told(-0.99), to, 0);
        }
        answers(Bench.SINGLES, Bench.told(-1.5f), 0, -1);
        answers(Bench.SINGLES, Bench.told(-1.5f), 1, 65535);
        answers(Bench.DOUBLES, Bench.told(128.9), 0, -128);
        answers(Bench.DOUBLES, Bench.told(32768.5), 2, -32768);
    }

    private static void answersZeroOutOfRange() {
        NumberProbe x = Bench.filled();
        for (int kind = 0; kind < 4; kind++) {
            for (int i : Bench.NO_NUMBERS) {
                Bench.due("narrow(" + kind + ", " + i + ", 3)", x.narrow(kind, i, 3), 0);
            }
            for (int to : new int[] {-1, 4, 5, Integer.MIN_VALUE, Integer.MAX_VALUE}) {
                Bench.due("narrow(" + kind + ", 0, " + to + ")", x.narrow(kind, 0, to), 0);
            }
        }
        for (int kind : Bench.NO_KINDS) {
            Bench.due("narrow(" + kind + ", 0, 3)", x.narrow(kind, 0, 3), 0);
        }
        Bench.unchanged("narrow", x);
    }
}
