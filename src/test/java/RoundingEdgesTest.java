/** Terms, how results are rounded: a test for each part of that sentence, the bits that are due written out. */
public final class RoundingEdgesTest {
    private static final int PLUS = 0;
    private static final int MINUS = 1;
    private static final int TIMES = 2;
    private static final int BY = 3;
    private static final int REST = 4;

    public static void main(String[] args) {
        singlesGoToTheNearest();
        doublesGoToTheNearest();
        singlesEquallyNearGoToTheEvenOne();
        doublesEquallyNearGoToTheEvenOne();
        convertedOnesEquallyNearGoToTheEvenOne();
        digitsFarBehindDecide();
        singlesAboveTheGreatestAreInfinite();
        doublesAboveTheGreatestAreInfinite();
        convertedOnesAboveTheGreatestAreInfinite();
        singlesBelowTheLeastNormalAreKept();
        doublesBelowTheLeastNormalAreKept();
        convertedOnesBelowTheLeastNormalAreKept();
        sumsOfOppositeSignsAreZero();
        sumsOfZerosOfOneSignKeepIt();
        seriesAndPolynomialAreRoundedAtEachStep();
        Bench.end();
    }

    private static void single(String what, int op, int x, int y, int want) {
        Bench.operates(what, Bench.SINGLES, op, x, y, want);
    }

    private static void twofold(String what, int op, long x, long y, long want) {
        Bench.operates(what, Bench.DOUBLES, op, x, y, want);
    }

    private static void singlesGoToTheNearest() {
        single("1 + a quarter of its last place", PLUS, 0x3F800000, 0x33000000, 0x3F800000);
        single("1 + the greatest below half its last place", PLUS, 0x3F800000, 0x337FFFFF, 0x3F800000);
        single("1 + the least above half its last place", PLUS, 0x3F800000, 0x33800001, 0x3F800001);
        single("1 + three quarters of its last place", PLUS, 0x3F800000, 0x33C00000, 0x3F800001);
        single("1 + the least of all", PLUS, 0x3F800000, 0x00000001, 0x3F800000);
        single("1 - the least of all", MINUS, 0x3F800000, 0x00000001, 0x3F800000);
        single("-1 - three quarters of its last place", MINUS, 0xBF800000, 0x33C00000, 0xBF800001);
        single("the least above 1 by itself", TIMES, 0x3F800001, 0x3F800001, 0x3F800002);
        single("the greatest below 1 by itself", TIMES, 0x3F7FFFFF, 0x3F7FFFFF, 0x3F7FFFFE);
        single("1 / 3", BY, 0x3F800000, 0x40400000, 0x3EAAAAAB);
        single("-1 / 3", BY, 0xBF800000, 0x40400000, 0xBEAAAAAB);
        single("1 / 10", BY, 0x3F800000, 0x41200000, 0x3DCCCCCD);
        single("4 / 3", BY, 0x40800000, 0x40400000, 0x3FAAAAAB);
        single("5 / 3", BY, 0x40A00000, 0x40400000, 0x3FD55555);
    }

    private static void doublesGoToTheNearest() {
        twofold("1 + a quarter of its last place", PLUS, 0x3FF0000000000000L, 0x3C90000000000000L, 0x3FF0000000000000L);
        twofold("1 + the greatest below half its last place", PLUS, 0x3FF0000000000000L, 0x3C9FFFFFFFFFFFFFL,
            0x3FF0000000000000L);
        twofold("1 + the least above half its last place", PLUS, 0x3FF0000000000000L, 0x3CA0000000000001L,
            0x3FF0000000000001L);
        twofold("1 + three quarters of its last place", PLUS, 0x3FF0000000000000L, 0x3CA8000000000000L,
            0x3FF0000000000001L);
        twofold("1 + the least of all", PLUS, 0x3FF0000000000000L, 1, 0x3FF0000000000000L);
        twofold("1 - the least of all", MINUS, 0x3FF0000000000000L, 1, 0x3FF0000000000000L);
        twofold("-1 - three quarters of its last place", MINUS, 0xBFF0000000000000L, 0x3CA8000000000000L,
            0xBFF0000000000001L);
        twofold("the least above 1 by itself", TIMES, 0x3FF0000000000001L, 0x3FF0000000000001L, 0x3FF0000000000002L);
        twofold("the greatest below 1 by itself", TIMES, 0x3FEFFFFFFFFFFFFFL, 0x3FEFFFFFFFFFFFFFL,
            0x3FEFFFFFFFFFFFFEL);
        twofold("1 / 3", BY, 0x3FF0000000000000L, 0x4008000000000000L, 0x3FD5555555555555L);
        twofold("-1 / 3", BY, 0xBFF0000000000000L, 0x4008000000000000L, 0xBFD5555555555555L);
        twofold("2 / 3", BY, 0x4000000000000000L, 0x4008000000000000L, 0x3FE5555555555555L);
        twofold("5 / 3", BY, 0x4014000000000000L, 0x4008000000000000L, 0x3FFAAAAAAAAAAAABL);
        twofold("1 / 10", BY, 0x3FF0000000000000L, 0x4024000000000000L, 0x3FB999999999999AL);
    }

    private static void singlesEquallyNearGoToTheEvenOne() {
        single("1 + half its last place", PLUS, 0x3F800000, 0x33800000, 0x3F800000);
        single("the least above 1 + half its last place", PLUS, 0x3F800001, 0x33800000, 0x3F800002);
        single("-1 - half its last place", MINUS, 0xBF800000, 0x33800000, 0xBF800000);
        single("the greatest below -1 - half its last place", MINUS, 0xBF800001, 0x33800000, 0xBF800002);
        single("the greatest below 2 + half its last place", PLUS, 0x3FFFFFFF, 0x33800000, 0x40000000);
        single("2^24 + 1", PLUS, 0x4B800000, 0x3F800000, 0x4B800000);
        single("2^24 + 2 + 1", PLUS, 0x4B800001, 0x3F800000, 0x4B800002);
        single("1.5 times a last digit of 1", TIMES, 0x3F800001, 0x3FC00000, 0x3FC00002);
        single("1.5 times a last digit of 3", TIMES, 0x3F800003, 0x3FC00000, 0x3FC00004);
        single("a last digit of 3 times 1.5", TIMES, 0x3FC00000, 0x3F800003, 0x3FC00004);
        single("1 - half the last place below it", MINUS, 0x3F800000, 0x33000000, 0x3F800000);
        single("1 + 2^-12 by itself, 2^-24 beyond", TIMES, 0x3F800800, 0x3F800800, 0x3F801000);
    }

    /** What would be equally near, but for digits far behind the last place: they decide. */
    private static void digitsFarBehindDecide() {
        single("1 + half its last place and 2^-47", PLUS, 0x3F800000, 0x33800001, 0x3F800001);
        single("1 - half the last place below it and 2^-48", MINUS, 0x3F800000, 0x33000001, 0x3F7FFFFF);
        single("half a last place and 2^-34 beyond", TIMES, 0x3F800802, 0x3F800800, 0x3F801003);
        single("the same, turned round", TIMES, 0x3F800800, 0x3F800802, 0x3F801003);
        twofold("1 + half its last place and 2^-105", PLUS, 0x3FF0000000000000L, 0x3CA0000000000001L,
            0x3FF0000000000001L);
        twofold("1 - half the last place below it and 2^-106", MINUS, 0x3FF0000000000000L, 0x3C90000000000001L,
            0x3FEFFFFFFFFFFFFFL);
        twofold("half a last place and 2^-77 beyond", TIMES, 0x3FF0000002000002L, 0x3FF0000004000000L,
            0x3FF0000006000003L);
        twofold("the same, turned round", TIMES, 0x3FF0000004000000L, 0x3FF0000002000002L, 0x3FF0000006000003L);
    }

    private static void doublesEquallyNearGoToTheEvenOne() {
        twofold("1 + half its last place", PLUS, 0x3FF0000000000000L, 0x3CA0000000000000L, 0x3FF0000000000000L);
        twofold("the least above 1 + half its last place", PLUS, 0x3FF0000000000001L, 0x3CA0000000000000L,
            0x3FF0000000000002L);
        twofold("-1 - half its last place", MINUS, 0xBFF0000000000000L, 0x3CA0000000000000L, 0xBFF0000000000000L);
        twofold("the greatest below -1 - half its last place", MINUS, 0xBFF0000000000001L, 0x3CA0000000000000L,
            0xBFF0000000000002L);
        twofold("the greatest below 2 + half its last place", PLUS, 0x3FFFFFFFFFFFFFFFL, 0x3CA0000000000000L,
            0x4000000000000000L);
        twofold("2^53 + 1", PLUS, 0x4340000000000000L, 0x3FF0000000000000L, 0x4340000000000000L);
        twofold("2^53 + 2 + 1", PLUS, 0x4340000000000001L, 0x3FF0000000000000L, 0x4340000000000002L);
        twofold("1.5 times a last digit of 1", TIMES, 0x3FF0000000000001L, 0x3FF8000000000000L, 0x3FF8000000000002L);
        twofold("1.5 times a last digit of 3", TIMES, 0x3FF0000000000003L, 0x3FF8000000000000L, 0x3FF8000000000004L);
        twofold("a last digit of 3 times 1.5", TIMES, 0x3FF8000000000000L, 0x3FF0000000000003L, 0x3FF8000000000004L);
        twofold("1 - half the last place below it", MINUS, 0x3FF0000000000000L, 0x3C90000000000000L,
            0x3FF0000000000000L);
        twofold("1 + 2^-27 by 1 + 2^-26, 2^-53 beyond", TIMES, 0x3FF0000002000000L, 0x3FF0000004000000L,
            0x3FF0000006000000L);
    }

    private static void convertedOnesEquallyNearGoToTheEvenOne() {
        Bench.converts("1 + half a last place", Bench.DOUBLES, 0x3FF0000010000000L, Bench.SINGLES, 0x3F800000);
        Bench.converts("1 + a bit more", Bench.DOUBLES, 0x3FF0000010000001L, Bench.SINGLES, 0x3F800001);
        Bench.converts("1 + a bit less", Bench.DOUBLES, 0x3FF000000FFFFFFFL, Bench.SINGLES, 0x3F800000);
        Bench.converts("1 + 3 halves", Bench.DOUBLES, 0x3FF0000030000000L, Bench.SINGLES, 0x3F800002);
        Bench.converts("-1 - 3 halves", Bench.DOUBLES, 0xBFF0000030000000L, Bench.SINGLES, 0xBF800002);
        Bench.converts("2 - half a last place", Bench.DOUBLES, 0x3FFFFFFFF0000000L, Bench.SINGLES, 0x40000000);
    }

    private static void singlesAboveTheGreatestAreInfinite() {
        single("greatest + half its last place", PLUS, 0x7F7FFFFF, 0x73000000, 0x7F800000);
        single("greatest + the greatest below that", PLUS, 0x7F7FFFFF, 0x72FFFFFF, 0x7F7FFFFF);
        single("-greatest - half its last place", MINUS, 0xFF7FFFFF, 0x73000000, 0xFF800000);
        single("-greatest - the greatest below that", MINUS, 0xFF7FFFFF, 0x72FFFFFF, 0xFF7FFFFF);
        single("greatest + greatest", PLUS, 0x7F7FFFFF, 0x7F7FFFFF, 0x7F800000);
        single("31 times what makes it half a last place more", TIMES, 0x41F80000, 0x7D042108, 0x7F800000);
        single("37 times what makes it a quarter more", TIMES, 0x42140000, 0x7CDD67C8, 0x7F7FFFFF);
        single("-greatest * 2", TIMES, 0xFF7FFFFF, 0x40000000, 0xFF800000);
        single("2^127 * 2", TIMES, 0x7F000000, 0x40000000, 0x7F800000);
        single("greatest * 1", TIMES, 0x7F7FFFFF, 0x3F800000, 0x7F7FFFFF);
        single("greatest / the greatest below 1", BY, 0x7F7FFFFF, 0x3F7FFFFF, 0x7F800000);
        single("the one below the greatest / the greatest below 1", BY, 0x7F7FFFFE, 0x3F7FFFFF, 0x7F7FFFFF);
        single("greatest / -0.5", BY, 0x7F7FFFFF, 0xBF000000, 0xFF800000);
        single("1 / the least of all", BY, 0x3F800000, 0x00000001, 0x7F800000);
    }

    private static void doublesAboveTheGreatestAreInfinite() {
        twofold("greatest + half its last place", PLUS, 0x7FEFFFFFFFFFFFFFL, 0x7C90000000000000L, 0x7FF0000000000000L);
        twofold("greatest + the greatest below that", PLUS, 0x7FEFFFFFFFFFFFFFL, 0x7C8FFFFFFFFFFFFFL,
            0x7FEFFFFFFFFFFFFFL);
        twofold("-greatest - half its last place", MINUS, 0xFFEFFFFFFFFFFFFFL, 0x7C90000000000000L,
            0xFFF0000000000000L);
        twofold("-greatest - the greatest below that", MINUS, 0xFFEFFFFFFFFFFFFFL, 0x7C8FFFFFFFFFFFFFL,
            0xFFEFFFFFFFFFFFFFL);
        twofold("greatest + greatest", PLUS, 0x7FEFFFFFFFFFFFFFL, 0x7FEFFFFFFFFFFFFFL, 0x7FF0000000000000L);
        twofold("68585259519 times what makes it half a last place more", TIMES, 0x422FF00003FE0000L,
            0x7DB0080400000000L, 0x7FF0000000000000L);
        twofold("665789 times what makes it a quarter more", TIMES, 0x4124517A00000000L, 0x7EB932F190820000L,
            0x7FEFFFFFFFFFFFFFL);
        twofold("-greatest * 2", TIMES, 0xFFEFFFFFFFFFFFFFL, 0x4000000000000000L, 0xFFF0000000000000L);
        twofold("2^1023 * 2", TIMES, 0x7FE0000000000000L, 0x4000000000000000L, 0x7FF0000000000000L);
        twofold("greatest * 1", TIMES, 0x7FEFFFFFFFFFFFFFL, 0x3FF0000000000000L, 0x7FEFFFFFFFFFFFFFL);
        twofold("greatest / the greatest below 1", BY, 0x7FEFFFFFFFFFFFFFL, 0x3FEFFFFFFFFFFFFFL, 0x7FF0000000000000L);
        twofold("the one below the greatest / the greatest below 1", BY, 0x7FEFFFFFFFFFFFFEL, 0x3FEFFFFFFFFFFFFFL,
            0x7FEFFFFFFFFFFFFFL);
        twofold("greatest / -0.5", BY, 0x7FEFFFFFFFFFFFFFL, 0xBFE0000000000000L, 0xFFF0000000000000L);
        twofold("1 / the least of all", BY, 0x3FF0000000000000L, 1, 0x7FF0000000000000L);
    }

    private static void convertedOnesAboveTheGreatestAreInfinite() {
        Bench.converts("greatest SINGLE", Bench.DOUBLES, 0x47EFFFFFE0000000L, Bench.SINGLES, 0x7F7FFFFF);
        Bench.converts("less than half more", Bench.DOUBLES, 0x47EFFFFFEFFFFFFFL, Bench.SINGLES, 0x7F7FFFFF);
        Bench.converts("half a last place more", Bench.DOUBLES, 0x47EFFFFFF0000000L, Bench.SINGLES, 0x7F800000);
        Bench.converts("less than half more, below 0", Bench.DOUBLES, 0xC7EFFFFFEFFFFFFFL, Bench.SINGLES, 0xFF7FFFFF);
        Bench.converts("half a place more, below 0", Bench.DOUBLES, 0xC7EFFFFFF0000000L, Bench.SINGLES, 0xFF800000);
        Bench.converts("2^128", Bench.DOUBLES, 0x47F0000000000000L, Bench.SINGLES, 0x7F800000);
        Bench.converts("the greatest DOUBLE", Bench.DOUBLES, 0x7FEFFFFFFFFFFFFFL, Bench.SINGLES, 0x7F800000);
    }

    private static void singlesBelowTheLeastNormalAreKept() {
        single("least normal - least", MINUS, 0x00800000, 0x00000001, 0x007FFFFF);
        single("greatest with fewer bits + least", PLUS, 0x007FFFFF, 0x00000001, 0x00800000);
        single("least + least", PLUS, 0x00000001, 0x00000001, 0x00000002);
        single("the one above the least normal - the least normal", MINUS, 0x00800001, 0x00800000, 0x00000001);
        single("least normal * 0.5", TIMES, 0x00800000, 0x3F000000, 0x00400000);
        single("least normal / 2", BY, 0x00800000, 0x40000000, 0x00400000);
        single("least normal / 2^23", BY, 0x00800000, 0x4B000000, 0x00000001);
        single("least * 2^23", TIMES, 0x00000001, 0x4B000000, 0x00800000);
        single("the one above the least normal / 2, to even", BY, 0x00800001, 0x40000000, 0x00400000);
        single("the third above the least normal / 2, to even", BY, 0x00800003, 0x40000000, 0x00400002);
        single("twice the least normal less its last place / 2, to even", BY, 0x00FFFFFF, 0x40000000, 0x00800000);
        single("least / 2, to even", BY, 0x00000001, 0x40000000, 0x00000000);
        single("3 least / 2, to even", BY, 0x00000003, 0x40000000, 0x00000002);
        single("5 least / 2, to even", BY, 0x00000005, 0x40000000, 0x00000002);
        single("-least / 2", BY, 0x80000001, 0x40000000, 0x80000000);
        single("least * the least above 0.5", TIMES, 0x00000001, 0x3F000001, 0x00000001);
        single("least * the greatest below 0.5", TIMES, 0x00000001, 0x3EFFFFFF, 0x00000000);
        single("2^-75 * 2^-75", TIMES, 0x1A000000, 0x1A000000, 0x00000000);
        single("2^-75 * the least above 2^-75", TIMES, 0x1A000000, 0x1A000001, 0x00000001);
        single("least * -least", TIMES, 0x00000001, 0x80000001, 0x80000000);
        single("5 least, rest by 3 least", REST, 0x00000005, 0x00000003, 0x00000002);
        single("least normal, rest by 3 least", REST, 0x00800000, 0x00000003, 0x00000002);
    }

    private static void doublesBelowTheLeastNormalAreKept() {
        twofold("least normal - least", MINUS, 0x0010000000000000L, 1, 0x000FFFFFFFFFFFFFL);
        twofold("greatest with fewer bits + least", PLUS, 0x000FFFFFFFFFFFFFL, 1, 0x0010000000000000L);
        twofold("least + least", PLUS, 1, 1, 2);
        twofold("the one above the least normal - that", MINUS, 0x0010000000000001L, 0x0010000000000000L, 1);
        twofold("least normal * 0.5", TIMES, 0x0010000000000000L, 0x3FE0000000000000L, 0x0008000000000000L);
        twofold("least normal / 2", BY, 0x0010000000000000L, 0x4000000000000000L, 0x0008000000000000L);
        twofold("least normal / 2^52", BY, 0x0010000000000000L, 0x4330000000000000L, 1);
        twofold("least * 2^52", TIMES, 1, 0x4330000000000000L, 0x0010000000000000L);
        twofold("the one above the least normal / 2, to even", BY, 0x0010000000000001L, 0x4000000000000000L,
            0x0008000000000000L);
        twofold("the third above the least normal / 2, to even", BY, 0x0010000000000003L, 0x4000000000000000L,
            0x0008000000000002L);
        twofold("twice the least normal less its last place / 2, to even", BY, 0x001FFFFFFFFFFFFFL,
            0x4000000000000000L, 0x0010000000000000L);
        twofold("least / 2, to even", BY, 1, 0x4000000000000000L, 0);
        twofold("3 least / 2, to even", BY, 3, 0x4000000000000000L, 2);
        twofold("5 least / 2, to even", BY, 5, 0x4000000000000000L, 2);
        twofold("-least / 2", BY, 0x8000000000000001L, 0x4000000000000000L, 0x8000000000000000L);
        twofold("least * the least above 0.5", TIMES, 1, 0x3FE0000000000001L, 1);
        twofold("least * the greatest below 0.5", TIMES, 1, 0x3FDFFFFFFFFFFFFFL, 0);
        twofold("2^-537 * 2^-538", TIMES, 0x1E60000000000000L, 0x1E50000000000000L, 0);
        twofold("2^-537 * the least above 2^-538", TIMES, 0x1E60000000000000L, 0x1E50000000000001L, 1);
        twofold("least * -least", TIMES, 1, 0x8000000000000001L, 0x8000000000000000L);
        twofold("5 least, rest by 3 least", REST, 5, 3, 2);
        twofold("least normal, rest by 3 least", REST, 0x0010000000000000L, 3, 1);
    }

    private static void convertedOnesBelowTheLeastNormalAreKept() {
        Bench.converts("least SINGLE", Bench.DOUBLES, 0x36A0000000000000L, Bench.SINGLES, 1);
        Bench.converts("half of it", Bench.DOUBLES, 0x3690000000000000L, Bench.SINGLES, 0);
        Bench.converts("half of it, below 0", Bench.DOUBLES, 0xB690000000000000L, Bench.SINGLES, 0x80000000);
        Bench.converts("a bit more than half", Bench.DOUBLES, 0x3690000000000001L, Bench.SINGLES, 1);
        Bench.converts("1.5 of it, to even", Bench.DOUBLES, 0x36A8000000000000L, Bench.SINGLES, 2);
        Bench.converts("2.5 of it, to even", Bench.DOUBLES, 0x36B4000000000000L, Bench.SINGLES, 2);
        Bench.converts("greatest with fewer bits", Bench.DOUBLES, 0x380FFFFFC0000000L, Bench.SINGLES, 0x007FFFFF);
        Bench.converts("half a place more, to even", Bench.DOUBLES, 0x380FFFFFE0000000L, Bench.SINGLES, 0x00800000);
        Bench.converts("least normal", Bench.DOUBLES, 0x3810000000000000L, Bench.SINGLES, 0x00800000);
        Bench.converts("the least DOUBLE", Bench.DOUBLES, 1, Bench.SINGLES, 0);
        Bench.converts("the least DOUBLE below 0", Bench.DOUBLES, 0x8000000000000001L, Bench.SINGLES, 0x80000000);
    }

    private static void sumsOfOppositeSignsAreZero() {
        int[] singles = {0x00000000, 0x00000001, 0x007FFFFF, 0x00800000, 0x3F800000, 0x40490FDB, 0x7F7FFFFF};
        for (int x : singles) {
            single("x + -x", PLUS, x, x | 0x80000000, 0);
            single("-x + x", PLUS, x | 0x80000000, x, 0);
            single("x - x", MINUS, x, x, 0);
            single("-x - -x", MINUS, x | 0x80000000, x | 0x80000000, 0);
        }
        long[] doubles = {
            0, 1, 0x000FFFFFFFFFFFFFL, 0x0010000000000000L, 0x3FF0000000000000L, 0x400921FB54442D18L,
            0x7FEFFFFFFFFFFFFFL,
        };
        for (long x : doubles) {
            twofold("x + -x", PLUS, x, x | Long.MIN_VALUE, 0);
            twofold("-x + x", PLUS, x | Long.MIN_VALUE, x, 0);
            twofold("x - x", MINUS, x, x, 0);
            twofold("-x - -x", MINUS, x | Long.MIN_VALUE, x | Long.MIN_VALUE, 0);
        }
    }

    private static void sumsOfZerosOfOneSignKeepIt() {
        single("-0.0 + -0.0", PLUS, 0x80000000, 0x80000000, 0x80000000);
        single("-0.0 - 0.0", MINUS, 0x80000000, 0x00000000, 0x80000000);
        single("0.0 - -0.0", MINUS, 0x00000000, 0x80000000, 0x00000000);
        twofold("-0.0 + -0.0", PLUS, Long.MIN_VALUE, Long.MIN_VALUE, Long.MIN_VALUE);
        twofold("-0.0 - 0.0", MINUS, Long.MIN_VALUE, 0, Long.MIN_VALUE);
        twofold("0.0 - -0.0", MINUS, 0, Long.MIN_VALUE, 0);
    }

    private static void seriesAndPolynomialAreRoundedAtEachStep() {
        NumberProbe x = new NumberProbe();
        // 2^53, then 2^53 + 1, which is 2^53 again: the third term would be 2^53 + 2 without rounding.
        x.put(Bench.DOUBLES, 0, 0x4340000000000000L);
        x.put(Bench.DOUBLES, 1, 0x3FF0000000000000L);
        x.series(0, 1, 3, 2);
        Bench.due("3 terms of 2^53", x.bits(Bench.DOUBLES, 2), 0x4358000000000000L);
        // Of x = 1 and 2^24, 1, -2^24, 0, 0, 1: the first 1 is lost in 2^24 + 1.
        x.put(Bench.SINGLES, 5, 0x4B800000);
        x.put(Bench.SINGLES, 4, 0x3F800000);
        x.put(Bench.SINGLES, 3, 0xCB800000);
        x.put(Bench.SINGLES, 0, 0x3F800000);
        x.polynomial(0, 1);
        Bench.due("2^24 + 1 - 2^24 + 0 + 0 + 1", x.bits(Bench.SINGLES, 1), 0x3F800000);
    }
}
