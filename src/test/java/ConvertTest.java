/** Promise 7: convert, against Java's own casts. */
public final class ConvertTest {
    private static final int SCATTERED = 5000;

    public static void main(String[] args) {
        for (int kind = 0; kind < 4; kind++) {
            for (int other = 0; other < 4; other++) {
                for (long bits : Bench.samples(kind)) {
                    converts(kind, bits, other, wanted(kind, bits, other));
                }
                for (int k = 0; k < SCATTERED; k++) {
                    long bits = scattered(kind, k);
                    converts(kind, bits, other, wanted(kind, bits, other));
                }
                refuses(kind, other);
            }
        }
        changesOneNumber();
        refusesNoKind();
        Bench.end();
    }

    private static long scattered(int kind, int k) {
        if (kind == Bench.SINGLES || kind == Bench.DOUBLES) {
            return Bench.scatteredFloat(kind, k);
        }
        return Bench.told(kind, Bench.scattered(k) >> k % 64);
    }

    private static void converts(int kind, long bits, int other, long want) {
        NumberProbe x = new NumberProbe();
        x.put(kind, 1, bits);
        Bench.due("convert(" + kind + ", 1, " + other + ", 4)", x.convert(kind, 1, other, 4), NumberProbe.DONE);
        Bench.due(bits + " of kind " + kind + " as kind " + other, x.bits(other, 4), want);
        Bench.due(bits + " of kind " + kind + " itself", x.bits(kind, 1), bits);
    }

    private static long wanted(int kind, long bits, int other) {
        switch (kind) {
            case Bench.SINGLES:
                return ofSingle(Bench.single(bits), other);
            case Bench.DOUBLES:
                return ofDouble(Bench.twofold(bits), other);
            case Bench.INTS:
                return ofInt((int) bits, other);
            default:
                return ofLong(bits, other);
        }
    }

    private static long ofSingle(float x, int other) {
        switch (other) {
            case Bench.SINGLES:
                return Bench.told(x);
            case Bench.DOUBLES:
                return Bench.told((double) x);
            case Bench.INTS:
                return (int) x;
            default:
                return (long) x;
        }
    }

    private static long ofDouble(double x, int other) {
        switch (other) {
            case Bench.SINGLES:
                return Bench.told((float) x);
            case Bench.DOUBLES:
                return Bench.told(x);
            case Bench.INTS:
                return (int) x;
            default:
                return (long) x;
        }
    }

    private static long ofInt(int x, int other) {
        switch (other) {
            case Bench.SINGLES:
                return Bench.told((float) x);
            case Bench.DOUBLES:
                return Bench.told((double) x);
            default:
                return x;
        }
    }

    private static long ofLong(long x, int other) {
        switch (other) {
            case Bench.SINGLES:
                return Bench.told((float) x);
            case Bench.DOUBLES:
                return Bench.told((double) x);
            case Bench.INTS:
                return (int) x;
            default:
                return x;
        }
    }

    private static void changesOneNumber() {
        for (int i = 0; i < 6; i++) {
            NumberProbe x = Bench.filled();
            String call = "convert(2, " + i + ", 3, " + (5 - i) + ")";
            Bench.due(call, x.convert(2, i, 3, 5 - i), NumberProbe.DONE);
            Bench.due("bits after " + call, x.bits(3, 5 - i), Bench.filling(2, i));
            for (int other = 0; other < 4; other++) {
                Bench.unchangedBut(call, x, other, other == 3 ? 5 - i : -1);
            }
        }
    }

    private static void refuses(int kind, int other) {
        NumberProbe x = Bench.filled();
        for (int i : Bench.NO_NUMBERS) {
            Bench.refused("convert(" + kind + ", " + i + ", " + other + ", 0)", x, x.convert(kind, i, other, 0));
            Bench.refused("convert(" + kind + ", 0, " + other + ", " + i + ")", x, x.convert(kind, 0, other, i));
        }
    }

    private static void refusesNoKind() {
        NumberProbe x = Bench.filled();
        for (int kind : Bench.NO_KINDS) {
            Bench.refused("convert(" + kind + ", 0, 1, 0)", x, x.convert(kind, 0, 1, 0));
            Bench.refused("convert(1, 0, " + kind + ", 0)", x, x.convert(1, 0, kind, 0));
        }
    }
}
