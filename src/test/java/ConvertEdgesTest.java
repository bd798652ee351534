/** Promise 7: a test for each of its sentences, the edges of every range written out. */
public final class ConvertEdgesTest {
    private static final long LEAST_INT = -2147483648L;
    private static final long GREATEST_INT = 2147483647L;
    private static final long LEAST_LONG = 0x8000000000000000L;
    private static final long GREATEST_LONG = 0x7FFFFFFFFFFFFFFFL;

    public static void main(String[] args) {
        intsToLongsExactly();
        longsToIntsByTheirLowBits();
        wholeOnesToSinglesRounded();
        wholeOnesToDoublesRounded();
        singlesTowardsZero();
        doublesTowardsZero();
        aNaNToZero();
        singlesOutOfRangeToTheNearest();
        doublesOutOfRangeToTheNearest();
        singlesToDoublesExactly();
        doublesToSinglesRounded();
        toTheSameKindAsItIs();
        toItself();
        Bench.end();
    }

    private static void is(String what, int kind, long bits, int other, long want) {
        Bench.converts(what, kind, bits, other, want);
    }

    private static void intsToLongsExactly() {
        for (long whole : new long[] {0, 1, -1, LEAST_INT, LEAST_INT + 1, GREATEST_INT}) {
            is("an INT as a LONG", Bench.INTS, whole, Bench.LONGS, whole);
        }
    }

    private static void longsToIntsByTheirLowBits() {
        is("the greatest INT", Bench.LONGS, GREATEST_INT, Bench.INTS, GREATEST_INT);
        is("the greatest INT + 1", Bench.LONGS, GREATEST_INT + 1, Bench.INTS, LEAST_INT);
        is("the least INT", Bench.LONGS, LEAST_INT, Bench.INTS, LEAST_INT);
        is("the least INT - 1", Bench.LONGS, LEAST_INT - 1, Bench.INTS, GREATEST_INT);
        is("2^32", Bench.LONGS, 0x100000000L, Bench.INTS, 0);
        is("2^32 - 1", Bench.LONGS, 0xFFFFFFFFL, Bench.INTS, -1);
        is("the least LONG", Bench.LONGS, LEAST_LONG, Bench.INTS, 0);
        is("the greatest LONG", Bench.LONGS, GREATEST_LONG, Bench.INTS, -1);
    }

    private static void wholeOnesToSinglesRounded() {
        for (int kind = Bench.INTS; kind <= Bench.LONGS; kind++) {
            is("0", kind, 0, Bench.SINGLES, 0x00000000);
            is("-1", kind, -1, Bench.SINGLES, 0xBF800000);
            is("2^24 - 1", kind, 16777215, Bench.SINGLES, 0x4B7FFFFF);
            is("2^24", kind, 16777216, Bench.SINGLES, 0x4B800000);
            is("2^24 + 1, to even", kind, 16777217, Bench.SINGLES, 0x4B800000);
            is("2^24 + 3, to even", kind, 16777219, Bench.SINGLES, 0x4B800002);
            is("-2^24 - 1, to even", kind, -16777217, Bench.SINGLES, 0xCB800000);
            is("-2^24 - 3, to even", kind, -16777219, Bench.SINGLES, 0xCB800002);
            is("2^25 + 3, nearer to 2^25 + 4", kind, 33554435, Bench.SINGLES, 0x4C000001);
            is("2^31 - 65, nearer to 2^31 - 128", kind, 2147483583, Bench.SINGLES, 0x4EFFFFFF);
            is("2^31 - 64, to even", kind, 2147483584, Bench.SINGLES, 0x4F000000);
            is("the greatest INT", kind, GREATEST_INT, Bench.SINGLES, 0x4F000000);
            is("the least INT", kind, LEAST_INT, Bench.SINGLES, 0xCF000000);
        }
        is("the greatest LONG", Bench.LONGS, GREATEST_LONG, Bench.SINGLES, 0x5F000000);
        is("the least LONG", Bench.LONGS, LEAST_LONG, Bench.SINGLES, 0xDF000000);
        is("the least LONG + 1", Bench.LONGS, LEAST_LONG + 1, Bench.SINGLES, 0xDF000000);
        is("2^62 + 2^38, to even", Bench.LONGS, 0x4000004000000000L, Bench.SINGLES, 0x5E800000);
        // By way of a DOUBLE it would become a tie, and go to 2^62.
        is("2^62 + 2^38 + 1, rounded once", Bench.LONGS, 0x4000004000000001L, Bench.SINGLES, 0x5E800001);
        is("2^62 + 2^38 - 1, rounded once", Bench.LONGS, 0x4000003FFFFFFFFFL, Bench.SINGLES, 0x5E800000);
        is("2^63 - 2^38 - 1", Bench.LONGS, 0x7FFFFFBFFFFFFFFFL, Bench.SINGLES, 0x5EFFFFFF);
        is("2^63 - 2^38, to even", Bench.LONGS, 0x7FFFFFC000000000L, Bench.SINGLES, 0x5F000000);
    }

    private static void wholeOnesToDoublesRounded() {
        for (int kind = Bench.INTS; kind <= Bench.LONGS; kind++) {
            is("0", kind, 0, Bench.DOUBLES, 0);
            is("-1", kind, -1, Bench.DOUBLES, 0xBFF0000000000000L);
            is("2^24 + 1, exactly", kind, 16777217, Bench.DOUBLES, 0x4170000010000000L);
            is("the greatest INT, exactly", kind, GREATEST_INT, Bench.DOUBLES, 0x41DFFFFFFFC00000L);
            is("the least INT, exactly", kind, LEAST_INT, Bench.DOUBLES, 0xC1E0000000000000L);
        }
        is("2^53 - 1", Bench.LONGS, 9007199254740991L, Bench.DOUBLES, 0x433FFFFFFFFFFFFFL);
        is("2^53 + 1, to even", Bench.LONGS, 9007199254740993L, Bench.DOUBLES, 0x4340000000000000L);
        is("2^53 + 3, to even", Bench.LONGS, 9007199254740995L, Bench.DOUBLES, 0x4340000000000002L);
        is("-2^53 - 1, to even", Bench.LONGS, -9007199254740993L, Bench.DOUBLES, 0xC340000000000000L);
        is("-2^53 - 3, to even", Bench.LONGS, -9007199254740995L, Bench.DOUBLES, 0xC340000000000002L);
        is("2^62 + 2^9, to even", Bench.LONGS, 0x4000000000000200L, Bench.DOUBLES, 0x43D0000000000000L);
        is("2^62 + 2^9 + 1", Bench.LONGS, 0x4000000000000201L, Bench.DOUBLES, 0x43D0000000000001L);
        is("2^63 - 2^9 - 1", Bench.LONGS, 0x7FFFFFFFFFFFFDFFL, Bench.DOUBLES, 0x43DFFFFFFFFFFFFFL);
        is("2^63 - 2^9, to even", Bench.LONGS, 0x7FFFFFFFFFFFFE00L, Bench.DOUBLES, 0x43E0000000000000L);
        is("the greatest LONG", Bench.LONGS, GREATEST_LONG, Bench.DOUBLES, 0x43E0000000000000L);
        is("the least LONG", Bench.LONGS, LEAST_LONG, Bench.DOUBLES, 0xC3E0000000000000L);
    }

    private static void singlesTowardsZero() {
        for (int other = Bench.INTS; other <= Bench.LONGS; other++) {
            is("0.0", Bench.SINGLES, 0x00000000, other, 0);
            is("-0.0", Bench.SINGLES, 0x80000000, other, 0);
            is("the least of all", Bench.SINGLES, 0x00000001, other, 0);
            is("0.5", Bench.SINGLES, 0x3F000000, other, 0);
            is("the greatest below 1", Bench.SINGLES, 0x3F7FFFFF, other, 0);
            is("the least above -1", Bench.SINGLES, 0xBF7FFFFF, other, 0);
            is("1", Bench.SINGLES, 0x3F800000, other, 1);
            is("1.5", Bench.SINGLES, 0x3FC00000, other, 1);
            is("-1.5", Bench.SINGLES, 0xBFC00000, other, -1);
            is("the greatest below 2", Bench.SINGLES, 0x3FFFFFFF, other, 1);
            is("8388607.5", Bench.SINGLES, 0x4AFFFFFF, other, 8388607);
            is("-8388607.5", Bench.SINGLES, 0xCAFFFFFF, other, -8388607);
            is("8388609", Bench.SINGLES, 0x4B000001, other, 8388609);
        }
    }

    private static void doublesTowardsZero() {
        for (int other = Bench.INTS; other <= Bench.LONGS; other++) {
            is("0.0", Bench.DOUBLES, 0, other, 0);
            is("-0.0", Bench.DOUBLES, 0x8000000000000000L, other, 0);
            is("the least of all", Bench.DOUBLES, 1, other, 0);
            is("-the least of all", Bench.DOUBLES, 0x8000000000000001L, other, 0);
            is("the greatest below 1", Bench.DOUBLES, 0x3FEFFFFFFFFFFFFFL, other, 0);
            is("the least above -1", Bench.DOUBLES, 0xBFEFFFFFFFFFFFFFL, other, 0);
            is("1", Bench.DOUBLES, 0x3FF0000000000000L, other, 1);
            is("1.5", Bench.DOUBLES, 0x3FF8000000000000L, other, 1);
            is("-1.5", Bench.DOUBLES, 0xBFF8000000000000L, other, -1);
            is("-2.5", Bench.DOUBLES, 0xC004000000000000L, other, -2);
            is("the greatest below 2", Bench.DOUBLES, 0x3FFFFFFFFFFFFFFFL, other, 1);
        }
        is("2^52 - 0.5", Bench.DOUBLES, 0x432FFFFFFFFFFFFFL, Bench.LONGS, 4503599627370495L);
        is("2^52 + 1", Bench.DOUBLES, 0x4330000000000001L, Bench.LONGS, 4503599627370497L);
    }

    private static void aNaNToZero() {
        for (int other = Bench.INTS; other <= Bench.LONGS; other++) {
            for (long bits : new long[] {0x7FC00000, 0xFFC00000, 0x7F800001, 0xFFFFFFFF}) {
                is("a NaN", Bench.SINGLES, bits, other, 0);
            }
            for (long bits : new long[] {0x7FF8000000000000L, 0xFFF8000000000000L, 0x7FF0000000000001L, -1L}) {
                is("a NaN", Bench.DOUBLES, bits, other, 0);
            }
        }
        is("a NaN as a DOUBLE", Bench.SINGLES, 0xFFC00001, Bench.DOUBLES, 0x7FF8000000000000L);
        is("a NaN as a SINGLE", Bench.DOUBLES, 0xFFF0000000000001L, Bench.SINGLES, 0x7FC00000);
    }

    private static void singlesOutOfRangeToTheNearest() {
        is("the greatest below 2^31", Bench.SINGLES, 0x4EFFFFFF, Bench.INTS, 2147483520);
        is("2^31", Bench.SINGLES, 0x4F000000, Bench.INTS, GREATEST_INT);
        is("the least above 2^31", Bench.SINGLES, 0x4F000001, Bench.INTS, GREATEST_INT);
        is("the least above -2^31", Bench.SINGLES, 0xCEFFFFFF, Bench.INTS, -2147483520);
        is("-2^31", Bench.SINGLES, 0xCF000000, Bench.INTS, LEAST_INT);
        is("the greatest below -2^31", Bench.SINGLES, 0xCF000001, Bench.INTS, LEAST_INT);
        is("the greatest below 2^63", Bench.SINGLES, 0x5EFFFFFF, Bench.LONGS, 0x7FFFFF8000000000L);
        is("2^63", Bench.SINGLES, 0x5F000000, Bench.LONGS, GREATEST_LONG);
        is("the least above -2^63", Bench.SINGLES, 0xDEFFFFFF, Bench.LONGS, 0x8000008000000000L);
        is("-2^63", Bench.SINGLES, 0xDF000000, Bench.LONGS, LEAST_LONG);
        is("the greatest below -2^63", Bench.SINGLES, 0xDF000001, Bench.LONGS, LEAST_LONG);
        // The INT nearest to a number beyond all LONGS is no LONG's low bits.
        is("2^63 as an INT", Bench.SINGLES, 0x5F000000, Bench.INTS, GREATEST_INT);
        is("-2^63 as an INT", Bench.SINGLES, 0xDF000000, Bench.INTS, LEAST_INT);
        is("the greatest finite one", Bench.SINGLES, 0x7F7FFFFF, Bench.INTS, GREATEST_INT);
        is("the least finite one", Bench.SINGLES, 0xFF7FFFFF, Bench.LONGS, LEAST_LONG);
        is("infinity as an INT", Bench.SINGLES, 0x7F800000, Bench.INTS, GREATEST_INT);
        is("infinity as a LONG", Bench.SINGLES, 0x7F800000, Bench.LONGS, GREATEST_LONG);
        is("that below 0 as an INT", Bench.SINGLES, 0xFF800000, Bench.INTS, LEAST_INT);
        is("that below 0 as a LONG", Bench.SINGLES, 0xFF800000, Bench.LONGS, LEAST_LONG);
    }

    private static void doublesOutOfRangeToTheNearest() {
        is("2^31 - 1", Bench.DOUBLES, 0x41DFFFFFFFC00000L, Bench.INTS, GREATEST_INT);
        is("the greatest below 2^31", Bench.DOUBLES, 0x41DFFFFFFFFFFFFFL, Bench.INTS, GREATEST_INT);
        is("2^31 - 2", Bench.DOUBLES, 0x41DFFFFFFF800000L, Bench.INTS, GREATEST_INT - 1);
        is("2^31", Bench.DOUBLES, 0x41E0000000000000L, Bench.INTS, GREATEST_INT);
        is("-2^31", Bench.DOUBLES, 0xC1E0000000000000L, Bench.INTS, LEAST_INT);
        is("-2^31 + 1", Bench.DOUBLES, 0xC1DFFFFFFFC00000L, Bench.INTS, LEAST_INT + 1);
        is("-2^31 - 0.5", Bench.DOUBLES, 0xC1E0000000100000L, Bench.INTS, LEAST_INT);
        is("-2^31 - 1", Bench.DOUBLES, 0xC1E0000000200000L, Bench.INTS, LEAST_INT);
        is("2^32 + 5", Bench.DOUBLES, 0x41F0000000500000L, Bench.INTS, GREATEST_INT);
        is("2^32 + 5 as a LONG", Bench.DOUBLES, 0x41F0000000500000L, Bench.LONGS, 0x100000005L);
        is("the greatest below 2^63", Bench.DOUBLES, 0x43DFFFFFFFFFFFFFL, Bench.LONGS, 0x7FFFFFFFFFFFFC00L);
        is("2^63", Bench.DOUBLES, 0x43E0000000000000L, Bench.LONGS, GREATEST_LONG);
        is("the least above -2^63", Bench.DOUBLES, 0xC3DFFFFFFFFFFFFFL, Bench.LONGS, 0x8000000000000400L);
        is("-2^63", Bench.DOUBLES, 0xC3E0000000000000L, Bench.LONGS, LEAST_LONG);
        is("the greatest below -2^63", Bench.DOUBLES, 0xC3E0000000000001L, Bench.LONGS, LEAST_LONG);
        is("2^64", Bench.DOUBLES, 0x43F0000000000000L, Bench.LONGS, GREATEST_LONG);
        is("the greatest finite one", Bench.DOUBLES, 0x7FEFFFFFFFFFFFFFL, Bench.INTS, GREATEST_INT);
        is("the least finite one", Bench.DOUBLES, 0xFFEFFFFFFFFFFFFFL, Bench.LONGS, LEAST_LONG);
        is("infinity as an INT", Bench.DOUBLES, 0x7FF0000000000000L, Bench.INTS, GREATEST_INT);
        is("infinity as a LONG", Bench.DOUBLES, 0x7FF0000000000000L, Bench.LONGS, GREATEST_LONG);
        is("that below 0 as an INT", Bench.DOUBLES, 0xFFF0000000000000L, Bench.INTS, LEAST_INT);
        is("that below 0 as a LONG", Bench.DOUBLES, 0xFFF0000000000000L, Bench.LONGS, LEAST_LONG);
    }

    private static void singlesToDoublesExactly() {
        is("0.0", Bench.SINGLES, 0x00000000, Bench.DOUBLES, 0);
        is("-0.0", Bench.SINGLES, 0x80000000, Bench.DOUBLES, 0x8000000000000000L);
        is("the least of all", Bench.SINGLES, 0x00000001, Bench.DOUBLES, 0x36A0000000000000L);
        is("the greatest with fewer bits", Bench.SINGLES, 0x007FFFFF, Bench.DOUBLES, 0x380FFFFFC0000000L);
        is("the least normal", Bench.SINGLES, 0x00800000, Bench.DOUBLES, 0x3810000000000000L);
        is("the least above 1", Bench.SINGLES, 0x3F800001, Bench.DOUBLES, 0x3FF0000020000000L);
        is("-the greatest finite one", Bench.SINGLES, 0xFF7FFFFF, Bench.DOUBLES, 0xC7EFFFFFE0000000L);
        is("infinity", Bench.SINGLES, 0x7F800000, Bench.DOUBLES, 0x7FF0000000000000L);
        is("that below 0", Bench.SINGLES, 0xFF800000, Bench.DOUBLES, 0xFFF0000000000000L);
    }

    /** The finite ones are in RoundingEdgesTest. */
    private static void doublesToSinglesRounded() {
        is("0.0", Bench.DOUBLES, 0, Bench.SINGLES, 0x00000000);
        is("-0.0", Bench.DOUBLES, 0x8000000000000000L, Bench.SINGLES, 0x80000000);
        is("1 / 3", Bench.DOUBLES, 0x3FD5555555555555L, Bench.SINGLES, 0x3EAAAAAB);
        is("infinity", Bench.DOUBLES, 0x7FF0000000000000L, Bench.SINGLES, 0x7F800000);
        is("that below 0", Bench.DOUBLES, 0xFFF0000000000000L, Bench.SINGLES, 0xFF800000);
    }

    private static void toTheSameKindAsItIs() {
        for (int kind = 0; kind < 4; kind++) {
            NumberProbe x = new NumberProbe();
            for (int which = 0; which < (kind == Bench.INTS ? 15 : 21); which++) {
                x.boundary(kind, 0, which);
                Bench.due("convert(" + kind + ", 0, " + kind + ", 5)", x.convert(kind, 0, kind, 5), NumberProbe.DONE);
                Bench.due("value " + which + " of kind " + kind, x.bits(kind, 5), x.bits(kind, 0));
            }
        }
    }

    private static void toItself() {
        for (int kind = 0; kind < 4; kind++) {
            NumberProbe x = Bench.filled();
            String call = "convert(" + kind + ", 2, " + kind + ", 2)";
            Bench.due(call, x.convert(kind, 2, kind, 2), NumberProbe.DONE);
            Bench.unchanged(call, x);
        }
    }
}
