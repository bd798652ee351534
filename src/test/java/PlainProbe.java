/** The document once more, in the plainest way: Java's own floats, doubles, ints and longs do all the work. */
final class PlainProbe {
    private final float[] singles = new float[6];
    private final double[] doubles = new double[6];
    private final int[] ints = new int[6];
    private final long[] longs = new long[6];

    int put(int kind, int i, long bits) {
        if (!isNumber(kind, i)) {
            return NumberProbe.REFUSED;
        }
        switch (kind) {
            case Bench.SINGLES:
                singles[i] = Float.intBitsToFloat((int) bits);
                break;
            case Bench.DOUBLES:
                doubles[i] = Double.longBitsToDouble(bits);
                break;
            case Bench.INTS:
                ints[i] = (int) bits;
                break;
            default:
                longs[i] = bits;
        }
        return NumberProbe.DONE;
    }

    int boundary(int kind, int i, int which) {
        if (!isNumber(kind, i) || which < 0 || which > (kind == Bench.INTS ? 14 : 20)) {
            return NumberProbe.REFUSED;
        }
        switch (kind) {
            case Bench.SINGLES:
                singles[i] = BoundaryTest.SINGLES[which];
                break;
            case Bench.DOUBLES:
                doubles[i] = BoundaryTest.DOUBLES[which];
                break;
            case Bench.INTS:
                ints[i] = BoundaryTest.INTS[which];
                break;
            default:
                longs[i] = BoundaryTest.LONGS[which];
        }
        return NumberProbe.DONE;
    }

    long bits(int kind, int i) {
        if (!isNumber(kind, i)) {
            return 0;
        }
        switch (kind) {
            case Bench.SINGLES:
                return Float.floatToIntBits(singles[i]);
            case Bench.DOUBLES:
                return Double.doubleToLongBits(doubles[i]);
            case Bench.INTS:
                return ints[i];
            default:
                return longs[i];
        }
    }

    int operate(int kind, int op, int a, int b, int to) {
        boolean inRange = isNumber(kind, a) && isNumber(kind, b) && isNumber(kind, to);
        if (!inRange || op < 0 || op > (kind >= Bench.INTS ? 14 : 8)) {
            return NumberProbe.REFUSED;
        }
        if (kind >= Bench.INTS && (op == 3 || op == 4) && wide(kind, b) == 0) {
            return NumberProbe.DIVIDE;
        }
        reckon(kind, op, kind, a, kind, b, kind, to);
        return NumberProbe.DONE;
    }

    int assign(int kind, int a, int op, int other, int b) {
        if (!isNumber(kind, a) || !isNumber(other, b) || op < 0 || op > 3) {
            return NumberProbe.REFUSED;
        }
        if (kind >= Bench.INTS && other >= Bench.INTS && op == 3 && wide(other, b) == 0) {
            return NumberProbe.DIVIDE;
        }
        int[] fromTheWidest = {Bench.DOUBLES, Bench.SINGLES, Bench.LONGS, Bench.INTS};
        for (int wider : fromTheWidest) {
            if (kind == wider || other == wider) {
                reckon(wider, op, kind, a, other, b, kind, a);
                return NumberProbe.DONE;
            }
        }
        throw new IllegalStateException("no kind is the wider one");
    }

    int convert(int kind, int i, int other, int to) {
        if (!isNumber(kind, i) || !isNumber(other, to)) {
            return NumberProbe.REFUSED;
        }
        switch (kind) {
            case Bench.SINGLES:
                become(other, to, singles[i]);
                break;
            case Bench.DOUBLES:
                become(other, to, doubles[i]);
                break;
            case Bench.INTS:
                become(other, to, ints[i]);
                break;
            default:
                become(other, to, longs[i]);
        }
        return NumberProbe.DONE;
    }

    int narrow(int kind, int i, int to) {
        if (!isNumber(kind, i)) {
            return 0;
        }
        switch (to) {
            case 0:
                return (byte) whole(kind, i);
            case 1:
                return (char) whole(kind, i);
            case 2:
                return (short) whole(kind, i);
            case 3:
                return whole(kind, i);
            default:
                return 0;
        }
    }

    int compare(int kind, int a, int b) {
        if (!isNumber(kind, a) || !isNumber(kind, b)) {
            return NumberProbe.REFUSED;
        }
        if (kind >= Bench.INTS) {
            long x = wide(kind, a);
            long y = wide(kind, b);
            return bit(0, x < y) | bit(1, x <= y) | bit(2, x > y) | bit(3, x >= y) | bit(4, x == y) | bit(5, x != y)
                | bit(6, !(x < y)) | bit(7, !(x >= y));
        }
        double x = twofold(kind, a);
        double y = twofold(kind, b);
        return bit(0, x < y) | bit(1, x <= y) | bit(2, x > y) | bit(3, x >= y) | bit(4, x == y) | bit(5, x != y)
            | bit(6, !(x < y)) | bit(7, !(x >= y));
    }

    int order(int kind, int a, int b) {
        if (!isNumber(kind, a) || !isNumber(kind, b)) {
            return NumberProbe.REFUSED;
        }
        return kind >= Bench.INTS
            ? Long.compare(wide(kind, a), wide(kind, b))
            : Double.compare(twofold(kind, a), twofold(kind, b));
    }

    int sort(int kind, int i) {
        if (!isNumber(kind, i)) {
            return NumberProbe.REFUSED;
        }
        if (kind >= Bench.INTS) {
            return 0;
        }
        double x = twofold(kind, i);
        double leastNormal = kind == Bench.SINGLES ? Float.MIN_NORMAL : Double.MIN_NORMAL;
        boolean finite = Double.isFinite(x);
        return bit(0, Double.isNaN(x)) | bit(1, Double.isInfinite(x)) | bit(2, finite) | bit(3, x == 0)
            | bit(4, finite && x != 0 && Math.abs(x) < leastNormal) | bit(5, !Double.isNaN(x) && bits(kind, i) < 0)
            | bit(6, finite && x == Math.rint(x)) | bit(7, isPowerOfTwo(x));
    }

    private static boolean isPowerOfTwo(double x) {
        return x > 0 && Double.isFinite(x) && x == Math.scalb(1.0, Math.max(Math.getExponent(x), -1022))
            || x > 0 && x < Double.MIN_NORMAL && Long.bitCount(Double.doubleToLongBits(x)) == 1;
    }

    int series(int a, int b, int n, int to) {
        boolean inRange = isNumber(Bench.DOUBLES, a) && isNumber(Bench.DOUBLES, b) && isNumber(Bench.DOUBLES, to);
        if (!inRange || n < 0 || n > 40) {
            return NumberProbe.REFUSED;
        }
        double step = doubles[b];
        double term = doubles[a];
        double sum = n == 0 ? 0.0 : term;
        for (int k = 2; k <= n; k++) {
            term += step;
            sum += term;
        }
        doubles[to] = sum;
        return NumberProbe.DONE;
    }

    int polynomial(int x, int to) {
        if (!isNumber(Bench.SINGLES, x) || !isNumber(Bench.SINGLES, to)) {
            return NumberProbe.REFUSED;
        }
        float[] s = singles;
        s[to] = ((((s[5] * s[x] + s[4]) * s[x] + s[3]) * s[x] + s[2]) * s[x] + s[1]) * s[x] + s[0];
        return NumberProbe.DONE;
    }

    private static boolean isNumber(int kind, int i) {
        return kind >= 0 && kind <= 3 && i >= 0 && i <= 5;
    }

    private static int bit(int number, boolean set) {
        return set ? 1 << number : 0;
    }

    /** Number to of kind toKind becomes the OPERATION, done in kind in, of two numbers of any kinds. */
    private void reckon(int in, int op, int kind, int a, int other, int b, int toKind, int to) {
        switch (in) {
            case Bench.SINGLES:
                become(toKind, to, Reckoner.reckoned(op, single(kind, a), single(other, b)));
                break;
            case Bench.DOUBLES:
                become(toKind, to, Reckoner.reckoned(op, twofold(kind, a), twofold(other, b)));
                break;
            case Bench.INTS:
                become(toKind, to, Reckoner.reckoned(op, whole(kind, a), whole(other, b)));
                break;
            default:
                become(toKind, to, Reckoner.reckoned(op, wide(kind, a), wide(other, b)));
        }
    }

    private float single(int kind, int i) {
        switch (kind) {
            case Bench.SINGLES:
                return singles[i];
            case Bench.DOUBLES:
                return (float) doubles[i];
            case Bench.INTS:
                return (float) ints[i];
            default:
                return (float) longs[i];
        }
    }

    private double twofold(int kind, int i) {
        switch (kind) {
            case Bench.SINGLES:
                return (double) singles[i];
            case Bench.DOUBLES:
                return doubles[i];
            case Bench.INTS:
                return (double) ints[i];
            default:
                return (double) longs[i];
        }
    }

    private int whole(int kind, int i) {
        switch (kind) {
            case Bench.SINGLES:
                return (int) singles[i];
            case Bench.DOUBLES:
                return (int) doubles[i];
            case Bench.INTS:
                return ints[i];
            default:
                return (int) longs[i];
        }
    }

    private long wide(int kind, int i) {
        switch (kind) {
            case Bench.SINGLES:
                return (long) singles[i];
            case Bench.DOUBLES:
                return (long) doubles[i];
            case Bench.INTS:
                return (long) ints[i];
            default:
                return longs[i];
        }
    }

    private void become(int kind, int i, float value) {
        switch (kind) {
            case Bench.SINGLES:
                singles[i] = value;
                break;
            case Bench.DOUBLES:
                doubles[i] = (double) value;
                break;
            case Bench.INTS:
                ints[i] = (int) value;
                break;
            default:
                longs[i] = (long) value;
        }
    }

    private void become(int kind, int i, double value) {
        switch (kind) {
            case Bench.SINGLES:
                singles[i] = (float) value;
                break;
            case Bench.DOUBLES:
                doubles[i] = value;
                break;
            case Bench.INTS:
                ints[i] = (int) value;
                break;
            default:
                longs[i] = (long) value;
        }
    }

    private void become(int kind, int i, int value) {
        switch (kind) {
            case Bench.SINGLES:
                singles[i] = (float) value;
                break;
            case Bench.DOUBLES:
                doubles[i] = (double) value;
                break;
            case Bench.INTS:
                ints[i] = value;
                break;
            default:
                longs[i] = (long) value;
        }
    }

    private void become(int kind, int i, long value) {
        switch (kind) {
            case Bench.SINGLES:
                singles[i] = (float) value;
                break;
            case Bench.DOUBLES:
                doubles[i] = (double) value;
                break;
            case Bench.INTS:
                ints[i] = (int) value;
                break;
            default:
                longs[i] = value;
        }
    }
}
