/** Promise 14: assign with b of the kind of a, for each of the four kinds, done in that kind. */
public final class SameKindTest {
    private static final int PLUS = 0;
    private static final int MINUS = 1;
    private static final int TIMES = 2;
    private static final int BY = 3;

    public static void main(String[] args) {
        singlesWithSingles();
        doublesWithDoubles();
        intsWithInts();
        longsWithLongs();
        aWholeZeroDivides();
        aNumberWithItself();
        anotherOfTheKindChangesNothingElse();
        theKindBesideIsRefused();
        Bench.end();
    }

    private static void becomes(String what, int kind, int op, long a, long b, long want) {
        NumberProbe x = new NumberProbe();
        x.put(kind, 0, a);
        x.put(kind, 5, b);
        String call = what + ": assign(" + kind + ", 0, " + op + ", " + kind + ", 5)";
        Bench.due(call, x.assign(kind, 0, op, kind, 5), NumberProbe.DONE);
        Bench.due(call + ", then a", x.bits(kind, 0), want);
        Bench.due(call + ", then b", x.bits(kind, 5), Bench.told(kind, b));
    }

    private static void singlesWithSingles() {
        becomes("2^24 += 1, to even", Bench.SINGLES, PLUS, 0x4B800000, 0x3F800000, 0x4B800000);
        becomes("1 -= 1", Bench.SINGLES, MINUS, 0x3F800000, 0x3F800000, 0x00000000);
        becomes("greatest *= 2", Bench.SINGLES, TIMES, 0x7F7FFFFF, 0x40000000, 0x7F800000);
        becomes("least *= 0.5", Bench.SINGLES, TIMES, 0x00000001, 0x3F000000, 0x00000000);
        becomes("1 /= 3", Bench.SINGLES, BY, 0x3F800000, 0x40400000, 0x3EAAAAAB);
        becomes("1 /= -0.0", Bench.SINGLES, BY, 0x3F800000, 0x80000000, 0xFF800000);
        becomes("0.0 /= 0.0", Bench.SINGLES, BY, 0x00000000, 0x00000000, 0x7FC00000);
        becomes("1 += NaN", Bench.SINGLES, PLUS, 0x3F800000, 0xFFC00000, 0x7FC00000);
    }

    private static void doublesWithDoubles() {
        becomes("2^53 += 1, to even", Bench.DOUBLES, PLUS, 0x4340000000000000L, 0x3FF0000000000000L,
            0x4340000000000000L);
        becomes("1 -= 1", Bench.DOUBLES, MINUS, 0x3FF0000000000000L, 0x3FF0000000000000L, 0);
        becomes("greatest *= 2", Bench.DOUBLES, TIMES, 0x7FEFFFFFFFFFFFFFL, 0x4000000000000000L, 0x7FF0000000000000L);
        becomes("least *= 0.5", Bench.DOUBLES, TIMES, 1, 0x3FE0000000000000L, 0);
        becomes("1 /= 3", Bench.DOUBLES, BY, 0x3FF0000000000000L, 0x4008000000000000L, 0x3FD5555555555555L);
        becomes("1 /= -0.0", Bench.DOUBLES, BY, 0x3FF0000000000000L, 0x8000000000000000L, 0xFFF0000000000000L);
        becomes("0.0 /= 0.0", Bench.DOUBLES, BY, 0, 0, 0x7FF8000000000000L);
        becomes("1 += NaN", Bench.DOUBLES, PLUS, 0x3FF0000000000000L, 0xFFF8000000000000L, 0x7FF8000000000000L);
    }

    private static void intsWithInts() {
        becomes("greatest += 1", Bench.INTS, PLUS, 2147483647, 1, -2147483648);
        becomes("least -= 1", Bench.INTS, MINUS, -2147483648, 1, 2147483647);
        becomes("65536 *= 65536", Bench.INTS, TIMES, 65536, 65536, 0);
        becomes("greatest *= greatest", Bench.INTS, TIMES, 2147483647, 2147483647, 1);
        becomes("least /= -1", Bench.INTS, BY, -2147483648, -1, -2147483648);
        becomes("-7 /= 2", Bench.INTS, BY, -7, 2, -3);
        // In SINGLES it would be 2^24.
        becomes("2^24 + 1 += 0", Bench.INTS, PLUS, 16777217, 0, 16777217);
    }

    private static void longsWithLongs() {
        becomes("greatest += 1", Bench.LONGS, PLUS, Long.MAX_VALUE, 1, Long.MIN_VALUE);
        becomes("least -= 1", Bench.LONGS, MINUS, Long.MIN_VALUE, 1, Long.MAX_VALUE);
        becomes("2^32 *= 2^32", Bench.LONGS, TIMES, 0x100000000L, 0x100000000L, 0);
        becomes("greatest *= greatest", Bench.LONGS, TIMES, Long.MAX_VALUE, Long.MAX_VALUE, 1);
        becomes("least /= -1", Bench.LONGS, BY, Long.MIN_VALUE, -1, Long.MIN_VALUE);
        becomes("-7 /= 2", Bench.LONGS, BY, -7, 2, -3);
        // In DOUBLES it would be 2^53, in INTS 1.
        becomes("2^53 + 1 += 0", Bench.LONGS, PLUS, 9007199254740993L, 0, 9007199254740993L);
    }

    private static void aWholeZeroDivides() {
        for (int kind = Bench.INTS; kind <= Bench.LONGS; kind++) {
            for (int op = PLUS; op <= BY; op++) {
                NumberProbe x = Bench.filled();
                x.put(kind, 5, 0);
                String call = "assign(" + kind + ", 1, " + op + ", " + kind + ", 5)";
                int want = op == BY ? NumberProbe.DIVIDE : NumberProbe.DONE;
                Bench.due(call, x.assign(kind, 1, op, kind, 5), want);
                long left = op == TIMES ? 0 : Bench.filling(kind, 1);
                Bench.due(call + ", then a", x.bits(kind, 1), left);
            }
        }
    }

    private static void aNumberWithItself() {
        for (int kind = 0; kind < 4; kind++) {
            withItself(kind, PLUS, 3, 6);
            withItself(kind, MINUS, 3, 0);
            withItself(kind, TIMES, -3, 9);
            withItself(kind, BY, -3, 1);
        }
        NumberProbe x = new NumberProbe();
        Bench.due("assign(2, 0, 3, 2, 0) of 0", x.assign(2, 0, BY, 2, 0), NumberProbe.DIVIDE);
        Bench.due("assign(0, 0, 3, 0, 0) of 0.0", x.assign(0, 0, BY, 0, 0), NumberProbe.DONE);
        Bench.due("0.0 /= 0.0", x.bits(0, 0), 0x7FC00000);
    }

    private static void withItself(int kind, int op, int a, int want) {
        NumberProbe x = Bench.filled();
        x.put(kind, 3, of(kind, a));
        String call = "assign(" + kind + ", 3, " + op + ", " + kind + ", 3) of " + a;
        Bench.due(call, x.assign(kind, 3, op, kind, 3), NumberProbe.DONE);
        Bench.due(call + ", then a", x.bits(kind, 3), of(kind, want));
        for (int other = 0; other < 4; other++) {
            Bench.unchangedBut(call, x, other, other == kind ? 3 : -1);
        }
    }

    private static long of(int kind, int whole) {
        if (kind == Bench.SINGLES) {
            return Bench.told((float) whole);
        }
        return kind == Bench.DOUBLES ? Bench.told((double) whole) : whole;
    }

    private static void anotherOfTheKindChangesNothingElse() {
        for (int kind = 0; kind < 4; kind++) {
            NumberProbe x = Bench.filled();
            String call = "assign(" + kind + ", 4, 1, " + kind + ", 2)";
            Bench.due(call, x.assign(kind, 4, MINUS, kind, 2), NumberProbe.DONE);
            // The fillings of SINGLES and INTS rise by 1, those of DOUBLES and LONGS fall.
            Bench.due(call + ", then a", x.bits(kind, 4), of(kind, kind % 2 == 0 ? 2 : -2));
            for (int other = 0; other < 4; other++) {
                Bench.unchangedBut(call, x, other, other == kind ? 4 : -1);
            }
        }
    }

    private static void theKindBesideIsRefused() {
        for (int other : new int[] {-1, 4}) {
            for (int kind = 0; kind < 4; kind++) {
                NumberProbe x = Bench.filled();
                Bench.refused("assign(" + kind + ", 0, 0, " + other + ", 1)", x, x.assign(kind, 0, 0, other, 1));
            }
        }
    }
}
