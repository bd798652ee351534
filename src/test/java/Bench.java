import java.util.Arrays;

/** What the tests share: the count of wrong answers, numbers to try, and a look at all that an object holds. */
final class Bench {
    static final int SINGLES = 0;
    static final int DOUBLES = 1;
    static final int INTS = 2;
    static final int LONGS = 3;

    static final int[] NO_KINDS = {-1, 4, 5, Integer.MIN_VALUE, Integer.MAX_VALUE};
    static final int[] NO_NUMBERS = {-1, 6, 7, Integer.MIN_VALUE, Integer.MAX_VALUE};

    private static final int SCATTERED = 24;

    private static final int[] SINGLE_SAMPLES = {
        0x00000000, 0x00000001, 0x00000002, 0x00000003, 0x00400000, 0x007FFFFF, 0x00800000, 0x00800001,
        0x00FFFFFF, 0x01000000, 0x33800000, 0x33800001, 0x34000000, 0x3EFFFFFF, 0x3F000000, 0x3F7FFFFF,
        0x3F800000, 0x3F800001, 0x3FC00000, 0x40000000, 0x40400000, 0x40490FDB, 0x41200000, 0x42FE0000,
        0x43008000, 0x477FFF00, 0x4B000001, 0x4B7FFFFF, 0x4B800000, 0x4B800001, 0x4EFFFFFF, 0x4F000000,
        0x4F000001, 0x5EFFFFFF, 0x5F000000, 0x5F000001, 0x5F7FFFFF, 0x7E800000, 0x7F000000, 0x7F7FFFFE,
        0x7F7FFFFF, 0x7F800000, 0x7FC00000,
    };

    private static final long[] DOUBLE_SAMPLES = {
        0x0000000000000000L, 0x0000000000000001L, 0x0000000000000002L, 0x0000000000000003L,
        0x0008000000000000L, 0x000FFFFFFFFFFFFFL, 0x0010000000000000L, 0x0010000000000001L,
        0x001FFFFFFFFFFFFFL, 0x0020000000000000L, 0x3690000000000000L, 0x3690000000000001L,
        0x36A0000000000000L, 0x36A8000000000000L, 0x380FFFFFC0000000L, 0x380FFFFFE0000000L,
        0x3810000000000000L, 0x3CA0000000000000L, 0x3CA0000000000001L, 0x3CB0000000000000L,
        0x3FDFFFFFFFFFFFFFL, 0x3FE0000000000000L, 0x3FEFFFFFFFFFFFFFL, 0x3FF0000000000000L,
        0x3FF0000000000001L, 0x3FF0000010000000L, 0x3FF0000010000001L, 0x3FF0000030000000L,
        0x3FF8000000000000L, 0x4000000000000000L, 0x400921FB54442D18L, 0x4024000000000000L,
        0x405FC00000000000L, 0x40F0000000000000L, 0x4170000010000000L, 0x41DFFFFFFFC00000L,
        0x41DFFFFFFFFFFFFFL, 0x41E0000000000000L, 0x41E0000000200000L, 0x4330000000000001L,
        0x433FFFFFFFFFFFFFL, 0x4340000000000000L, 0x43DFFFFFFFFFFFFFL, 0x43E0000000000000L,
        0x43E0000000000001L, 0x47EFFFFFE0000000L, 0x47EFFFFFEFFFFFFFL, 0x47EFFFFFF0000000L,
        0x47F0000000000000L, 0x7FD0000000000000L, 0x7FE0000000000000L, 0x7FEFFFFFFFFFFFFEL,
        0x7FEFFFFFFFFFFFFFL, 0x7FF0000000000000L, 0x7FF8000000000000L,
    };

    private static final long[] WHOLE_SAMPLES = {
        0, 1, 2, 3, 5, 7, 10, 31, 32, 33, 63, 64, 65, 127, 128, 129, 255, 256, 1000, 32767, 32768, 32769, 65535,
        65536, 0xFFFFFFL, 0x1000000L, 0x1000001L, 0x1000003L, 0x7FFFFF7FL, 0x7FFFFFBFL, 0x7FFFFFC0L, 0x7FFFFFFFL,
    };

    private static final long[] LONG_SAMPLES = {
        0x80000000L, 0x80000001L, 0xFFFFFFFFL, 0x100000000L, 0x1FFFFFFFFFFFFFL, 0x20000000000000L,
        0x20000000000001L, 0x20000000000003L, 0x4000000000000200L, 0x4000000000000201L, 0x4000004000000000L,
        0x4000004000000001L, 0x7FFFFFFFFFFFFDFFL, 0x7FFFFFFFFFFFFE00L, 0x7FFFFFFFFFFFFFFFL,
    };

    private static int wrong = 0;

    private Bench() {
    }

    static void due(String call, long got, long want) {
        if (got != want) {
            wrong++;
            System.out.println(call + " answered " + got + ", due is " + want);
        }
    }

    static void end() {
        if (wrong != 0) {
            System.out.println(wrong + " answers are not as due");
            System.exit(1);
        }
    }

    /** Numbers of the kind as put takes them: edges of either sign, and some scattered ones. */
    static long[] samples(int kind) {
        switch (kind) {
            case SINGLES:
                return bothSigns(Arrays.stream(SINGLE_SAMPLES).asLongStream().toArray(), kind);
            case DOUBLES:
                return bothSigns(DOUBLE_SAMPLES, kind);
            case INTS:
                return bothSigns(WHOLE_SAMPLES, kind);
            default:
                long[] all = Arrays.copyOf(WHOLE_SAMPLES, WHOLE_SAMPLES.length + LONG_SAMPLES.length);
                System.arraycopy(LONG_SAMPLES, 0, all, WHOLE_SAMPLES.length, LONG_SAMPLES.length);
                return bothSigns(all, kind);
        }
    }

    private static long[] bothSigns(long[] values, int kind) {
        long[] all = Arrays.copyOf(values, 2 * values.length + 1 + SCATTERED);
        for (int k = 0; k < values.length; k++) {
            all[values.length + k] = opposite(kind, values[k]);
        }
        all[2 * values.length] = kind == INTS ? Integer.MIN_VALUE : kind == LONGS ? Long.MIN_VALUE : 0;
        for (int k = 0; k < SCATTERED; k++) {
            all[2 * values.length + 1 + k] = told(kind, scattered(31L * kind + k));
        }
        return all;
    }

    private static long opposite(int kind, long value) {
        switch (kind) {
            case SINGLES:
                return told(kind, value ^ 0x80000000L);
            case DOUBLES:
                return told(kind, value ^ 0x8000000000000000L);
            default:
                return told(kind, -value);
        }
    }

    /** The bits as the document has them told: of the kind's width, every NaN the same. */
    static long told(int kind, long bits) {
        switch (kind) {
            case SINGLES:
                return Float.floatToIntBits(Float.intBitsToFloat((int) bits));
            case DOUBLES:
                return Double.doubleToLongBits(Double.longBitsToDouble(bits));
            case INTS:
                return (int) bits;
            default:
                return bits;
        }
    }

    static long told(float x) {
        return Float.floatToIntBits(x);
    }

    static long told(double x) {
        return Double.doubleToLongBits(x);
    }

    static float single(long bits) {
        return Float.intBitsToFloat((int) bits);
    }

    static double twofold(long bits) {
        return Double.longBitsToDouble(bits);
    }

    /** Bits without a pattern, always the same for the same number. */
    static long scattered(long number) {
        long bits = (number + 1) * 0x9E3779B97F4A7C15L;
        bits = (bits ^ bits >>> 30) * 0xBF58476D1CE4E5B9L;
        bits = (bits ^ bits >>> 27) * 0x94D049BB133111EBL;
        return bits ^ bits >>> 31;
    }

    /** A number of a float kind, near 1.0 or anywhere, often with long runs of zeros or ones in its bits. */
    static long scatteredFloat(int kind, long number) {
        long bits = scattered(2 * number);
        long choice = scattered(2 * number + 1);
        int fractionBits = kind == SINGLES ? 23 : 52;
        int cut = (int) (choice >>> 8 & 63) % fractionBits;
        if ((choice & 1) == 0) {
            bits = bits >> cut << cut;
        } else if ((choice & 2) == 0) {
            bits |= (1L << cut) - 1;
        }
        if ((choice & 4) == 0) {
            long bias = kind == SINGLES ? 127 : 1023;
            long exponent = bias - 16 + (choice >>> 16 & 31);
            long fraction = bits & (1L << fractionBits) - 1;
            long sign = kind == SINGLES ? bits & 0x80000000L : bits & 0x8000000000000000L;
            bits = sign | exponent << fractionBits | fraction;
        }
        return told(kind, bits);
    }

    /** An object whose 24 numbers are all different from 0 and from one another. */
    static NumberProbe filled() {
        NumberProbe x = new NumberProbe();
        for (int kind = 0; kind < 4; kind++) {
            for (int i = 0; i < 6; i++) {
                x.put(kind, i, filling(kind, i));
            }
        }
        return x;
    }

    static long filling(int kind, int i) {
        switch (kind) {
            case SINGLES:
                return told(1.5f + i);
            case DOUBLES:
                return told(-20.25 - i);
            case INTS:
                return 300 + i;
            default:
                return -0x5000000000L - i;
        }
    }

    /** Every number of an object made by filled() is still there. */
    static void unchanged(String call, NumberProbe x) {
        for (int kind = 0; kind < 4; kind++) {
            unchangedBut(call, x, kind, -1);
        }
    }

    /** The numbers of a kind, but for number changed, are those of filled(). */
    static void unchangedBut(String call, NumberProbe x, int kind, int changed) {
        for (int i = 0; i < 6; i++) {
            if (i != changed) {
                due("after " + call + " bits(" + kind + ", " + i + ")", x.bits(kind, i), filling(kind, i));
            }
        }
    }

    /** The OPERATION of x and y of a kind is DONE, and number to is as wanted then. */
    static void operates(String what, int kind, int op, long x, long y, long want) {
        NumberProbe probe = new NumberProbe();
        probe.put(kind, 0, x);
        probe.put(kind, 1, y);
        String call = what + ": operate(" + kind + ", " + op + ", 0, 1, 2)";
        due(call, probe.operate(kind, op, 0, 1, 2), NumberProbe.DONE);
        due(call + ", then bits(" + kind + ", 2)", probe.bits(kind, 2), want);
    }

    /** A number of a kind converted to another is DONE, and number to is as wanted then. */
    static void converts(String what, int kind, long bits, int other, long want) {
        NumberProbe probe = new NumberProbe();
        probe.put(kind, 1, bits);
        String call = what + ": convert(" + kind + ", 1, " + other + ", 4)";
        due(call, probe.convert(kind, 1, other, 4), NumberProbe.DONE);
        due(call + ", then bits(" + other + ", 4)", probe.bits(other, 4), want);
    }

    /** A call on an object made by filled() was refused and changed nothing. */
    static void refused(String call, NumberProbe x, long got) {
        due(call, got, NumberProbe.REFUSED);
        unchanged(call, x);
    }
}
