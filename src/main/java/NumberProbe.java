/**
 * A bench for the machine's numbers: six floats, doubles, ints and longs each, told by their bits.
 *
 * Floats and doubles are kept as their bits and reckoned with in whole numbers alone, because
 * LANGUAGE.md (rule 3) lets no operation on a float or double answer a NaN and names no call that
 * tells the bits of one.
 */
public final class NumberProbe {
    public static final int DONE = 0;
    public static final int REFUSED = -1;
    public static final int DIVIDE = -2;

    private static final int SINGLES = 0;
    private static final int DOUBLES = 1;
    private static final int INTS = 2;
    private static final int LONGS = 3;
    private static final int KINDS = 4;
    private static final int NUMBERS = 6;

    private static final int PLUS = 0;
    private static final int MINUS = 1;
    private static final int TIMES = 2;
    private static final int BY = 3;
    private static final int REST = 4;
    private static final int LESSER = 5;
    private static final int GREATER = 6;
    private static final int NEGATIVE = 7;
    private static final int UNSIGNED = 8;
    private static final int LEFT = 9;
    private static final int RIGHT = 10;
    private static final int RIGHT_FILLED_BY_ZEROS = 11;
    private static final int AND = 12;
    private static final int OR = 13;
    private static final int EXCLUSIVE_OR = 14;

    private static final int MOST_TERMS = 40;

    // What compare answers, bit 7 first: !(a >= b), !(a < b), a != b, a == b, a >= b, a > b, a <= b, a < b.
    private static final int IS_LESS = 0b10100011;
    private static final int IS_EQUAL = 0b01011010;
    private static final int IS_GREATER = 0b01101100;
    private static final int HAS_NAN = 0b11100000;

    private static final long[] SINGLE_BOUNDARIES = {
        0x00000000L, // 0.0
        0xFFFFFFFF80000000L, // -0.0
        0x3F800000L, // 1.0
        0xFFFFFFFFBF800000L, // -1.0
        0x00000001L, // the least above 0
        0x007FFFFFL, // the greatest with fewer bits
        0x00800000L, // the least normal
        0x7F7FFFFFL, // the greatest finite
        0x7F800000L, // the infinity
        0xFFFFFFFFFF800000L, // the infinity below 0
        0x7FC00000L, // a NaN
        0x3F800001L, // the least above 1.0
        0x3F7FFFFFL, // the greatest below 1.0
        0x4B800000L, // 2^24 + 1, rounded to 2^24
        0x5A000000L, // 2^53 + 1, rounded to 2^53
        0x4F000000L, // 2^31
        0xFFFFFFFFCF000000L, // -2^31
        0x5F000000L, // 2^63
        0xFFFFFFFFDF000000L, // -2^63
        0x4F000000L, // 2^31 - 1, rounded to 2^31
        0x5F000000L, // 2^63 - 1, rounded to 2^63
    };

    private static final long[] DOUBLE_BOUNDARIES = {
        0x0000000000000000L, // 0.0
        0x8000000000000000L, // -0.0
        0x3FF0000000000000L, // 1.0
        0xBFF0000000000000L, // -1.0
        0x0000000000000001L, // the least above 0
        0x000FFFFFFFFFFFFFL, // the greatest with fewer bits
        0x0010000000000000L, // the least normal
        0x7FEFFFFFFFFFFFFFL, // the greatest finite
        0x7FF0000000000000L, // the infinity
        0xFFF0000000000000L, // the infinity below 0
        0x7FF8000000000000L, // a NaN
        0x3FF0000000000001L, // the least above 1.0
        0x3FEFFFFFFFFFFFFFL, // the greatest below 1.0
        0x4170000010000000L, // 2^24 + 1
        0x4340000000000000L, // 2^53 + 1, rounded to 2^53
        0x41E0000000000000L, // 2^31
        0xC1E0000000000000L, // -2^31
        0x43E0000000000000L, // 2^63
        0xC3E0000000000000L, // -2^63
        0x41DFFFFFFFC00000L, // 2^31 - 1
        0x43E0000000000000L, // 2^63 - 1, rounded to 2^63
    };

    private static final long[] INT_BOUNDARIES = {
        0L, -1L, 1L, -0x80000000L, 0x7FFFFFFFL, 127L, 128L, -129L, 255L, 32767L, 32768L, -32769L, 65535L, 65536L,
        0x1000001L, // 2^24 + 1
    };

    private static final long[] LONG_BOUNDARIES = {
        0L, -1L, 1L, 0x8000000000000000L, 0x7FFFFFFFFFFFFFFFL, 127L, 128L, -129L, 255L, 32767L, 32768L, -32769L,
        65535L, 65536L,
        0x1000001L, // 2^24 + 1
        0x80000000L, // 2^31
        -0x80000001L, // -2^31 - 1
        0x100000000L, // 2^32
        0x20000000000001L, // 2^53 + 1
        0x1FFFFFFFFFFFFFL, // 2^53 - 1
        0x4000000000000201L, // 2^62 + 2^9 + 1
    };

    // A row for each kind. SINGLES and INTS stand there as ints widened with their sign.
    private final long[][] numbers;

    public NumberProbe() {
        numbers = new long[KINDS][NUMBERS];
    }

    public int put(int kind, int i, long bits) {
        if (!isNumber(kind, i)) {
            return REFUSED;
        }
        numbers[kind][i] = isFloating(kind) ? formatOf(kind).numberOf(bits) : fitted(kind, bits);
        return DONE;
    }

    public int boundary(int kind, int i, int which) {
        if (!isNumber(kind, i)) {
            return REFUSED;
        }
        long[] values = boundariesOf(kind);
        if (which < 0 || which >= values.length) {
            return REFUSED;
        }
        numbers[kind][i] = values[which];
        return DONE;
    }

    public long bits(int kind, int i) {
        return isNumber(kind, i) ? numbers[kind][i] : 0;
    }

    public int operate(int kind, int op, int a, int b, int to) {
        if (!isNumber(kind, a) || !isNumber(kind, b) || !isNumber(kind, to) || !isOperation(kind, op)) {
            return REFUSED;
        }
        long y = numbers[kind][b];
        if (dividesByZero(kind, op, y)) {
            return DIVIDE;
        }
        numbers[kind][to] = result(kind, op, numbers[kind][a], y);
        return DONE;
    }

    public int assign(int kind, int a, int op, int other, int b) {
        if (!isNumber(kind, a) || !isNumber(other, b) || op < PLUS || op > BY) {
            return REFUSED;
        }
        int wider = widthOf(kind) >= widthOf(other) ? kind : other;
        long x = converted(kind, numbers[kind][a], wider);
        long y = converted(other, numbers[other][b], wider);
        if (dividesByZero(wider, op, y)) {
            return DIVIDE;
        }
        numbers[kind][a] = converted(wider, result(wider, op, x, y), kind);
        return DONE;
    }

    public int convert(int kind, int i, int other, int to) {
        if (!isNumber(kind, i) || !isNumber(other, to)) {
            return REFUSED;
        }
        numbers[other][to] = converted(kind, numbers[kind][i], other);
        return DONE;
    }

    public int narrow(int kind, int i, int to) {
        if (!isNumber(kind, i)) {
            return 0;
        }
        int number = (int) converted(kind, numbers[kind][i], INTS);
        switch (to) {
            case 0:
                return (byte) number;
            case 1:
                return (char) number;
            case 2:
                return (short) number;
            case 3:
                return number;
            default:
                return 0;
        }
    }

    public int compare(int kind, int a, int b) {
        if (!isNumber(kind, a) || !isNumber(kind, b)) {
            return REFUSED;
        }
        long x = numbers[kind][a];
        long y = numbers[kind][b];
        if (isFloating(kind)) {
            Format format = formatOf(kind);
            if (format.isNaN(x) || format.isNaN(y)) {
                return HAS_NAN;
            }
            x = format.rankByValue(x);
            y = format.rankByValue(y);
        }
        if (x == y) {
            return IS_EQUAL;
        }
        return x < y ? IS_LESS : IS_GREATER;
    }

    public int order(int kind, int a, int b) {
        if (!isNumber(kind, a) || !isNumber(kind, b)) {
            return REFUSED;
        }
        long x = numbers[kind][a];
        long y = numbers[kind][b];
        if (isFloating(kind)) {
            Format format = formatOf(kind);
            x = format.rankInSorting(x);
            y = format.rankInSorting(y);
        }
        return Long.compare(x, y);
    }

    public int sort(int kind, int i) {
        if (!isNumber(kind, i)) {
            return REFUSED;
        }
        return isFloating(kind) ? formatOf(kind).traits(numbers[kind][i]) : 0;
    }

    public int series(int a, int b, int n, int to) {
        if (!isNumber(DOUBLES, a) || !isNumber(DOUBLES, b) || !isNumber(DOUBLES, to) || n < 0 || n > MOST_TERMS) {
            return REFUSED;
        }
        long term = numbers[DOUBLES][a];
        long step = numbers[DOUBLES][b];
        long sum = n == 0 ? 0 : term;
        for (int k = 1; k < n; k++) {
            term = Format.DOUBLE.sum(term, step);
            sum = Format.DOUBLE.sum(sum, term);
        }
        numbers[DOUBLES][to] = sum;
        return DONE;
    }

    public int polynomial(int x, int to) {
        if (!isNumber(SINGLES, x) || !isNumber(SINGLES, to)) {
            return REFUSED;
        }
        long[] singles = numbers[SINGLES];
        long value = singles[NUMBERS - 1];
        for (int k = NUMBERS - 2; k >= 0; k--) {
            value = Format.SINGLE.sum(Format.SINGLE.product(value, singles[x]), singles[k]);
        }
        singles[to] = value;
        return DONE;
    }

    private static boolean isNumber(int kind, int i) {
        return kind >= 0 && kind < KINDS && i >= 0 && i < NUMBERS;
    }

    private static boolean isOperation(int kind, int op) {
        return op >= PLUS && op <= (isFloating(kind) ? UNSIGNED : EXCLUSIVE_OR);
    }

    private static boolean isFloating(int kind) {
        return kind == SINGLES || kind == DOUBLES;
    }

    private static Format formatOf(int kind) {
        return kind == SINGLES ? Format.SINGLE : Format.DOUBLE;
    }

    /** The place of a kind in the order INTS, LONGS, SINGLES, DOUBLES. */
    private static int widthOf(int kind) {
        return isFloating(kind) ? kind + 2 : kind - 2;
    }

    private static long[] boundariesOf(int kind) {
        switch (kind) {
            case SINGLES:
                return SINGLE_BOUNDARIES;
            case DOUBLES:
                return DOUBLE_BOUNDARIES;
            case INTS:
                return INT_BOUNDARIES;
            default:
                return LONG_BOUNDARIES;
        }
    }

    /** A whole number wrapped to the width of INTS or LONGS. */
    private static long fitted(int kind, long whole) {
        return kind == LONGS ? whole : (int) whole;
    }

    private static long converted(int from, long number, int to) {
        if (isFloating(to)) {
            return isFloating(from)
                ? formatOf(to).nearestTo(formatOf(from), number)
                : formatOf(to).nearestToWhole(number);
        }
        if (!isFloating(from)) {
            return fitted(to, number);
        }
        long whole = formatOf(from).towardsZero(number);
        return to == LONGS ? whole : Math.max(Integer.MIN_VALUE, Math.min(Integer.MAX_VALUE, whole));
    }

    private static boolean dividesByZero(int kind, int op, long y) {
        return !isFloating(kind) && (op == BY || op == REST) && y == 0;
    }

    private static long result(int kind, int op, long x, long y) {
        if (isFloating(kind)) {
            return floatingResult(formatOf(kind), op, x, y);
        }
        if (op >= LEFT && op <= RIGHT_FILLED_BY_ZEROS) {
            return shifted(kind, op, x, y);
        }
        return fitted(kind, wholeResult(op, x, y));
    }

    private static long floatingResult(Format format, int op, long x, long y) {
        switch (op) {
            case PLUS:
                return format.sum(x, y);
            case MINUS:
                return format.sum(x, format.negated(y));
            case TIMES:
                return format.product(x, y);
            case BY:
                return format.quotient(x, y);
            case REST:
                return format.remainder(x, y);
            case LESSER:
                return format.lesser(x, y);
            case GREATER:
                return format.greater(x, y);
            case NEGATIVE:
                return format.negated(x);
            default:
                return format.magnitude(x);
        }
    }

    /**
     * INTS are reckoned in longs here: whatever they yield, its low 32 bits are those of the wrapped int.
     * Where y divides, it is not 0: dividesByZero is asked before.
     */
    private static long wholeResult(int op, long x, long y) {
        switch (op) {
            case PLUS:
                return x + y;
            case MINUS:
                return x - y;
            case TIMES:
                return x * y;
            case BY:
                return x / y;
            case REST:
                return x % y;
            case LESSER:
                return Math.min(x, y);
            case GREATER:
                return Math.max(x, y);
            case NEGATIVE:
                return -x;
            case UNSIGNED:
                return x < 0 ? -x : x;
            case AND:
                return x & y;
            case OR:
                return x | y;
            default:
                return x ^ y;
        }
    }

    private static long shifted(int kind, int op, long x, long y) {
        if (kind == INTS) {
            int number = (int) x;
            int count = (int) y & 31;
            if (op == LEFT) {
                return number << count;
            }
            return op == RIGHT ? number >> count : number >>> count;
        }
        int count = (int) y & 63;
        if (op == LEFT) {
            return x << count;
        }
        return op == RIGHT ? x >> count : x >>> count;
    }

    /**
     * A binary format of IEEE 754. Its numbers are longs that hold their bits, those of a SINGLE widened
     * with their sign, so that in both formats the sign of the long is that of the number. Every NaN that
     * goes in or comes out is the one that the document tells.
     */
    private enum Format {
        SINGLE(23, 8),
        DOUBLE(52, 11);

        private static final int NAN = 1;
        private static final int INFINITE = 2;
        private static final int FINITE = 4;
        private static final int ZERO = 8;
        private static final int NOT_NORMAL = 16;
        private static final int SIGN_SET = 32;
        private static final int WHOLE = 64;
        private static final int POWER_OF_TWO = 128;

        private static final int LONG_BITS = 64;
        // As many as a DOUBLE has: no significand has more.
        private static final int MOST_BITS = 53;
        // Room below a significand that leaves a bit for the carry of a sum.
        private static final int GUARD_BITS = 9;
        // A significand times a digit of so many bits is a long yet; six digits hold a significand.
        private static final int DIGIT_BITS = 10;
        private static final int DIGITS = 6;

        private final int fractionBits;
        private final int exponentOfSpecials;
        private final int leastExponent;
        private final long magnitudeMask;
        private final long infinity;
        private final long nan;

        Format(int fractionBits, int exponentBits) {
            this.fractionBits = fractionBits;
            exponentOfSpecials = (1 << exponentBits) - 1;
            leastExponent = 2 - (1 << (exponentBits - 1)) - fractionBits;
            magnitudeMask = (1L << (fractionBits + exponentBits)) - 1;
            infinity = (long) exponentOfSpecials << fractionBits;
            nan = infinity | 1L << (fractionBits - 1);
        }

        long numberOf(long bits) {
            boolean negative = (bits & (magnitudeMask + 1)) != 0;
            return isNaN(bits) ? nan : signed(negative, magnitude(bits));
        }

        boolean isNaN(long x) {
            return magnitude(x) > infinity;
        }

        private boolean isInfinite(long x) {
            return magnitude(x) == infinity;
        }

        private boolean isZero(long x) {
            return magnitude(x) == 0;
        }

        long magnitude(long x) {
            return x & magnitudeMask;
        }

        long negated(long x) {
            return isNaN(x) ? x : x ^ ~magnitudeMask;
        }

        private long signed(boolean negative, long magnitude) {
            return negative ? magnitude | ~magnitudeMask : magnitude;
        }

        /** With exponentOf: a finite x is, but for its sign, significandOf(x) * 2^exponentOf(x). */
        private long significandOf(long x) {
            long fraction = x & ((1L << fractionBits) - 1);
            return exponentField(x) == 0 ? fraction : fraction | 1L << fractionBits;
        }

        private int exponentOf(long x) {
            return leastExponent + Math.max(exponentField(x), 1) - 1;
        }

        private int exponentField(long x) {
            return (int) (x >>> fractionBits) & exponentOfSpecials;
        }

        /** The shift to MOST_BITS, after which products and quotients have bits enough to be rounded. */
        private static int widening(long significand) {
            return Long.numberOfLeadingZeros(significand) - (LONG_BITS - MOST_BITS);
        }

        private static long digitOf(long value, int digit) {
            return value >>> (digit * DIGIT_BITS) & ((1 << DIGIT_BITS) - 1);
        }

        /** Grows as the order in sorting does: -0.0 before 0.0, the NaN last. */
        long rankInSorting(long x) {
            return x < 0 ? x ^ magnitudeMask : x;
        }

        /** Grows as the values do: both zeros have the same rank; a NaN has none. */
        long rankByValue(long x) {
            return isZero(x) ? 0 : rankInSorting(x);
        }

        long lesser(long x, long y) {
            if (isNaN(x) || isNaN(y)) {
                return nan;
            }
            return rankInSorting(x) <= rankInSorting(y) ? x : y;
        }

        long greater(long x, long y) {
            if (isNaN(x) || isNaN(y)) {
                return nan;
            }
            return rankInSorting(x) >= rankInSorting(y) ? x : y;
        }

        long sum(long x, long y) {
            if (isNaN(x) || isNaN(y)) {
                return nan;
            }
            if (isInfinite(x)) {
                return isInfinite(y) && x != y ? nan : x;
            }
            if (isInfinite(y)) {
                return y;
            }
            return magnitude(x) >= magnitude(y) ? finiteSum(x, y) : finiteSum(y, x);
        }

        private long finiteSum(long great, long small) {
            int exponent = exponentOf(great);
            long above = significandOf(great) << GUARD_BITS;
            long below = shiftedRight(significandOf(small) << GUARD_BITS, exponent - exponentOf(small));
            boolean sameSign = great < 0 == small < 0;
            long total = sameSign ? above + below : above - below;
            boolean negative = great < 0 && (sameSign || total != 0);
            return rounded(negative, total, exponent - GUARD_BITS);
        }

        long product(long x, long y) {
            boolean negative = x < 0 != y < 0;
            if (isNaN(x) || isNaN(y)) {
                return nan;
            }
            if (isInfinite(x) || isInfinite(y)) {
                return isZero(x) || isZero(y) ? nan : signed(negative, infinity);
            }
            if (isZero(x) || isZero(y)) {
                return signed(negative, 0);
            }
            return finiteProduct(negative, x, y);
        }

        private long finiteProduct(boolean negative, long x, long y) {
            int shiftX = widening(significandOf(x));
            int shiftY = widening(significandOf(y));
            long left = significandOf(x) << shiftX;
            long right = significandOf(y) << shiftY;
            long product = 0;
            long lost = 0;
            for (int digit = 0; digit < DIGITS; digit++) {
                lost |= digitOf(product, 0);
                product = (product >>> DIGIT_BITS) + left * digitOf(right, digit);
            }
            int exponent = exponentOf(x) - shiftX + exponentOf(y) - shiftY + (DIGITS - 1) * DIGIT_BITS;
            return rounded(negative, withRest(product, lost), exponent);
        }

        long quotient(long x, long y) {
            boolean negative = x < 0 != y < 0;
            if (isNaN(x) || isNaN(y) || isInfinite(x) && isInfinite(y) || isZero(x) && isZero(y)) {
                return nan;
            }
            if (isInfinite(x) || isZero(y)) {
                return signed(negative, infinity);
            }
            if (isZero(x) || isInfinite(y)) {
                return signed(negative, 0);
            }
            return finiteQuotient(negative, x, y);
        }

        private long finiteQuotient(boolean negative, long x, long y) {
            int shiftX = widening(significandOf(x));
            int shiftY = widening(significandOf(y));
            long dividend = significandOf(x) << shiftX;
            long divisor = significandOf(y) << shiftY;
            long quotient = dividend / divisor;
            long rest = dividend % divisor;
            for (int digit = 0; digit < DIGITS; digit++) {
                rest <<= DIGIT_BITS;
                quotient = (quotient << DIGIT_BITS) + rest / divisor;
                rest %= divisor;
            }
            int exponent = exponentOf(x) - shiftX - exponentOf(y) + shiftY - DIGITS * DIGIT_BITS;
            return rounded(negative, withRest(quotient, rest), exponent);
        }

        long remainder(long x, long y) {
            if (isNaN(x) || isNaN(y) || isInfinite(x) || isZero(y)) {
                return nan;
            }
            if (magnitude(x) < magnitude(y)) {
                return x;
            }
            long divisor = significandOf(y);
            long rest = significandOf(x) % divisor;
            for (int left = exponentOf(x) - exponentOf(y); left > 0; left -= DIGIT_BITS) {
                rest = (rest << Math.min(left, DIGIT_BITS)) % divisor;
            }
            return rounded(x < 0, rest, exponentOf(y));
        }

        /** A number of another format, or of this one, in this format. */
        long nearestTo(Format other, long x) {
            if (other.isNaN(x)) {
                return nan;
            }
            if (other.isInfinite(x)) {
                return signed(x < 0, infinity);
            }
            return rounded(x < 0, other.significandOf(x), other.exponentOf(x));
        }

        long nearestToWhole(long whole) {
            long magnitude = whole < 0 ? -whole : whole;
            // The least long has no positive counterpart, but it is even.
            return magnitude < 0 ? rounded(true, magnitude >>> 1, 1) : rounded(whole < 0, magnitude, 0);
        }

        /** The whole part of x as a long: of a NaN 0, of what is out of range the nearest long. */
        long towardsZero(long x) {
            if (isNaN(x)) {
                return 0;
            }
            long significand = significandOf(x);
            int exponent = exponentOf(x);
            if (exponent >= Long.numberOfLeadingZeros(significand)) {
                return x < 0 ? Long.MIN_VALUE : Long.MAX_VALUE;
            }
            long whole;
            if (exponent >= 0) {
                whole = significand << exponent;
            } else {
                whole = exponent > -LONG_BITS ? significand >>> -exponent : 0;
            }
            return x < 0 ? -whole : whole;
        }

        /** What sort answers of x. */
        int traits(long x) {
            if (isNaN(x)) {
                return NAN;
            }
            int sign = x < 0 ? SIGN_SET : 0;
            if (isInfinite(x)) {
                return sign | INFINITE;
            }
            if (isZero(x)) {
                return sign | FINITE | ZERO | WHOLE;
            }
            return sign | FINITE
                | (exponentField(x) == 0 ? NOT_NORMAL : 0)
                | (isWhole(x) ? WHOLE : 0)
                | (x > 0 && Long.bitCount(significandOf(x)) == 1 ? POWER_OF_TWO : 0);
        }

        private boolean isWhole(long x) {
            return exponentOf(x) + Long.numberOfTrailingZeros(significandOf(x)) >= 0;
        }

        /**
         * The number nearest to significand * 2^exponent, of two equally near ones the even one. The
         * significand is not negative; if it has more than fractionBits + 2 bits, the last of them may
         * stand for whatever there is below it.
         */
        private long rounded(boolean negative, long significand, int exponent) {
            if (significand == 0) {
                return signed(negative, 0);
            }
            int shift = Long.numberOfLeadingZeros(significand) - 1;
            int cut = LONG_BITS - 2 - fractionBits;
            int lastPlace = exponent - shift + cut;
            if (lastPlace < leastExponent) {
                cut += leastExponent - lastPlace;
                lastPlace = leastExponent;
            }
            int places = lastPlace - leastExponent;
            if (places >= exponentOfSpecials - 1) {
                return signed(negative, infinity);
            }
            // The leading bit is added to the exponent: a carry of the rounding goes on into it, up to infinity.
            long magnitude = ((long) places << fractionBits) + cutToEven(significand << shift, cut);
            return signed(negative, magnitude);
        }

        private static long cutToEven(long value, int cut) {
            if (cut >= LONG_BITS) {
                return 0;
            }
            long kept = value >>> cut;
            long rest = value - (kept << cut);
            long half = 1L << (cut - 1);
            boolean up = rest > half || rest == half && (kept & 1) == 1;
            return up ? kept + 1 : kept;
        }

        /** Shifted right, the last bit standing for all that was lost. */
        private static long shiftedRight(long value, int by) {
            if (by >= LONG_BITS) {
                return withRest(0, value);
            }
            long kept = value >>> by;
            return withRest(kept, value - (kept << by));
        }

        private static long withRest(long value, long rest) {
            return rest == 0 ? value : value | 1;
        }
    }
}
