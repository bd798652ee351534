/** Promise 6: assign, against Java's own compound assignments, the two kinds being the same one too. */
public final class AssignTest {
    private static final int EVERY = 3;

    public static void main(String[] args) {
        for (int kind = 0; kind < 4; kind++) {
            for (int other = 0; other < 4; other++) {
                assignsSamples(kind, other);
                refuses(kind, other);
            }
        }
        theWiderKindDoesIt();
        theResultBecomesAsWide();
        zerosDivideFloats();
        answersDivide();
        refusesNoKind();
        Bench.end();
    }

    private static void assignsSamples(int kind, int other) {
        long[] left = Bench.samples(kind);
        long[] right = Bench.samples(other);
        for (int i = 0; i < left.length; i++) {
            for (int k = i % EVERY; k < right.length; k += EVERY) {
                assigns(kind, left[i], other, right[k]);
            }
        }
    }

    private static void assigns(int kind, long a, int other, long b) {
        NumberProbe x = new NumberProbe();
        x.put(other, 5, b);
        for (int op = 0; op < 4; op++) {
            if (op == 3 && kind >= 2 && other >= 2 && b == 0) {
                continue;
            }
            x.put(kind, 2, a);
            Bench.due("assign(" + kind + ", 2, " + op + ", " + other + ", 5)", x.assign(kind, 2, op, other, 5), 0);
            String what = "kind " + kind + " " + a + " op " + op + " kind " + other + " " + b;
            Bench.due(what, x.bits(kind, 2), wanted(kind, a, op, other, b));
            Bench.due("the right side of " + what, x.bits(other, 5), b);
        }
    }

    private static long wanted(int kind, long a, int op, int other, long b) {
        switch (kind) {
            case Bench.SINGLES:
                return Bench.told(assigned(Bench.single(a), op, other, b));
            case Bench.DOUBLES:
                return Bench.told(assigned(Bench.twofold(a), op, other, b));
            case Bench.INTS:
                return assigned((int) a, op, other, b);
            default:
                return assigned(a, op, other, b);
        }
    }

    private static float assigned(float a, int op, int other, long b) {
        float f = Bench.single(b);
        double d = Bench.twofold(b);
        int i = (int) b;
        switch (4 * other + op) {
            case 0: a += f; break;
            case 1: a -= f; break;
            case 2: a *= f; break;
            case 3: a /= f; break;
            case 4: a += d; break;
            case 5: a -= d; break;
            case 6: a *= d; break;
            case 7: a /= d; break;
            case 8: a += i; break;
            case 9: a -= i; break;
            case 10: a *= i; break;
            case 11: a /= i; break;
            case 12: a += b; break;
            case 13: a -= b; break;
            case 14: a *= b; break;
            default: a /= b; break;
        }
        return a;
    }

    private static double assigned(double a, int op, int other, long b) {
        float f = Bench.single(b);
        double d = Bench.twofold(b);
        int i = (int) b;
        switch (4 * other + op) {
            case 0: a += f; break;
            case 1: a -= f; break;
            case 2: a *= f; break;
            case 3: a /= f; break;
            case 4: a += d; break;
            case 5: a -= d; break;
            case 6: a *= d; break;
            case 7: a /= d; break;
            case 8: a += i; break;
            case 9: a -= i; break;
            case 10: a *= i; break;
            case 11: a /= i; break;
            case 12: a += b; break;
            case 13: a -= b; break;
            case 14: a *= b; break;
            default: a /= b; break;
        }
        return a;
    }

    private static int assigned(int a, int op, int other, long b) {
        float f = Bench.single(b);
        double d = Bench.twofold(b);
        int i = (int) b;
        switch (4 * other + op) {
            case 0: a += f; break;
            case 1: a -= f; break;
            case 2: a *= f; break;
            case 3: a /= f; break;
            case 4: a += d; break;
            case 5: a -= d; break;
            case 6: a *= d; break;
            case 7: a /= d; break;
            case 8: a += i; break;
            case 9: a -= i; break;
            case 10: a *= i; break;
            case 11: a /= i; break;
            case 12: a += b; break;
            case 13: a -= b; break;
            case 14: a *= b; break;
            default: a /= b; break;
        }
        return a;
    }

    private static long assigned(long a, int op, int other, long b) {
        float f = Bench.single(b);
        double d = Bench.twofold(b);
        int i = (int) b;
        switch (4 * other + op) {
            case 0: a += f; break;
            case 1: a -= f; break;
            case 2: a *= f; break;
            case 3: a /= f; break;
            case 4: a += d; break;
            case 5: a -= d; break;
            case 6: a *= d; break;
            case 7: a /= d; break;
            case 8: a += i; break;
            case 9: a -= i; break;
            case 10: a *= i; break;
            case 11: a /= i; break;
            case 12: a += b; break;
            case 13: a -= b; break;
            case 14: a *= b; break;
            default: a /= b; break;
        }
        return a;
    }

    private static void theWiderKindDoesIt() {
        becomes("an INT in SINGLES", Bench.INTS, 16777217, 0, Bench.SINGLES, Bench.told(0.0f), 16777216);
        becomes("an INT in DOUBLES", Bench.INTS, 16777217, 0, Bench.DOUBLES, Bench.told(0.5), 16777217);
        becomes("an INT in LONGS", Bench.INTS, 7, 2, Bench.LONGS, 0x100000001L, 7);
        becomes("a LONG in LONGS", Bench.LONGS, 0x100000000L, 2, Bench.INTS, 2147483647, 0x7FFFFFFF00000000L);
        becomes("a LONG in SINGLES", Bench.LONGS, 16777217, 1, Bench.SINGLES, Bench.told(0.0f), 16777216);
        becomes("a LONG in DOUBLES", Bench.LONGS, 9007199254740993L, 0, Bench.DOUBLES, 0, 9007199254740992L);
        becomes("a SINGLE in SINGLES", Bench.SINGLES, 0, 0, Bench.LONGS, 0x4000004000000001L, 0x5E800001);
        becomes("a SINGLE in SINGLES", Bench.SINGLES, Bench.told(-1.0f), 0, Bench.INTS, 16777217, 0x4B7FFFFF);
        becomes("a DOUBLE in DOUBLES", Bench.DOUBLES, Bench.told(-1.0), 0, Bench.INTS, 16777217,
            Bench.told(16777216.0));
        // 2^-160 and 2^160 are no SINGLES: there it would be 0.0 or infinite.
        becomes("a SINGLE in DOUBLES", Bench.SINGLES, Bench.told(0x1p100f), 2, Bench.DOUBLES, Bench.told(0x1p-160),
            Bench.told(0x1p-60f));
        becomes("a SINGLE in DOUBLES", Bench.SINGLES, Bench.told(0x1p100f), 3, Bench.DOUBLES, Bench.told(0x1p160),
            Bench.told(0x1p-60f));
        becomes("a DOUBLE with a SINGLE", Bench.DOUBLES, Bench.told(1.0), 0, Bench.SINGLES, 1, Bench.told(1.0));
    }

    private static void theResultBecomesAsWide() {
        becomes("an INT from LONGS, by its low bits", Bench.INTS, 5, 0, Bench.LONGS, 0x700000000L, 5);
        becomes("an INT from LONGS, wrapping", Bench.INTS, 2147483647, 0, Bench.LONGS, 1, Integer.MIN_VALUE);
        becomes("an INT from LONGS, wrapping", Bench.INTS, Integer.MIN_VALUE, 3, Bench.LONGS, -1, Integer.MIN_VALUE);
        becomes("an INT out of range", Bench.INTS, 2147483647, 0, Bench.DOUBLES, Bench.told(1.0), 2147483647);
        becomes("an INT out of range", Bench.INTS, Integer.MIN_VALUE, 1, Bench.DOUBLES, Bench.told(1.0),
            Integer.MIN_VALUE);
        becomes("an INT towards zero", Bench.INTS, -1, 2, Bench.DOUBLES, Bench.told(1.75), -1);
        becomes("an INT from a NaN", Bench.INTS, 5, 2, Bench.SINGLES, 0x7FC00000, 0);
        becomes("a LONG out of range", Bench.LONGS, Long.MAX_VALUE, 2, Bench.SINGLES, Bench.told(2.0f), Long.MAX_VALUE);
        becomes("a LONG out of range", Bench.LONGS, Long.MIN_VALUE, 2, Bench.DOUBLES, Bench.told(2.0), Long.MIN_VALUE);
        becomes("a LONG from a NaN", Bench.LONGS, 5, 0, Bench.DOUBLES, 0x7FF8000000000000L, 0);
        becomes("a SINGLE above the greatest", Bench.SINGLES, 0x7F7FFFFF, 2, Bench.DOUBLES, Bench.told(2.0),
            0x7F800000);
        becomes("a SINGLE below the least", Bench.SINGLES, 1, 3, Bench.DOUBLES, Bench.told(-2.0), 0x80000000);
    }

    private static void zerosDivideFloats() {
        becomes("an INT by 0.0", Bench.INTS, 5, 3, Bench.SINGLES, Bench.told(0.0f), Integer.MAX_VALUE);
        becomes("an INT by -0.0", Bench.INTS, 5, 3, Bench.DOUBLES, Bench.told(-0.0), Integer.MIN_VALUE);
        becomes("a LONG by 0.0", Bench.LONGS, -5, 3, Bench.SINGLES, Bench.told(0.0f), Long.MIN_VALUE);
        becomes("a LONG by -0.0", Bench.LONGS, 5, 3, Bench.DOUBLES, Bench.told(-0.0), Long.MIN_VALUE);
        becomes("the INT 0 by 0.0", Bench.INTS, 0, 3, Bench.SINGLES, Bench.told(0.0f), 0);
        becomes("a SINGLE by the INT 0", Bench.SINGLES, Bench.told(-1f), 3, Bench.INTS, 0, 0xFF800000);
        becomes("a SINGLE by the LONG 0", Bench.SINGLES, Bench.told(0f), 3, Bench.LONGS, 0, 0x7FC00000);
        becomes("a DOUBLE by the INT 0", Bench.DOUBLES, Bench.told(1.0), 3, Bench.INTS, 0, 0x7FF0000000000000L);
        becomes("a DOUBLE by the LONG 0", Bench.DOUBLES, Bench.told(-1.0), 3, Bench.LONGS, 0, 0xFFF0000000000000L);
        // Its low 32 bits are 0, but it is not.
        becomes("an INT by the LONG 2^32", Bench.INTS, 5, 3, Bench.LONGS, 0x100000000L, 0);
    }

    private static void becomes(String what, int kind, long a, int op, int other, long b, long want) {
        NumberProbe x = new NumberProbe();
        x.put(kind, 0, a);
        x.put(other, 1, b);
        Bench.due(what, x.assign(kind, 0, op, other, 1), NumberProbe.DONE);
        Bench.due(what, x.bits(kind, 0), want);
    }

    private static void answersDivide() {
        for (int kind = 2; kind < 4; kind++) {
            for (int other = 2; other < 4; other++) {
                NumberProbe x = Bench.filled();
                x.put(other, 4, 0);
                String call = "assign(" + kind + ", 1, 3, " + other + ", 4)";
                Bench.due(call, x.assign(kind, 1, 3, other, 4), NumberProbe.DIVIDE);
                Bench.due(call + " with a out of range", x.assign(kind, 6, 3, other, 4), NumberProbe.REFUSED);
                for (int each = 0; each < 4; each++) {
                    Bench.unchangedBut(call, x, each, each == other ? 4 : -1);
                }
            }
        }
    }

    private static void refuses(int kind, int other) {
        String first = "assign(" + kind + ", ";
        NumberProbe x = Bench.filled();
        for (int op : new int[] {-1, 4, 5, Integer.MIN_VALUE, Integer.MAX_VALUE}) {
            Bench.refused(first + "0, " + op + ", " + other + ", 1)", x, x.assign(kind, 0, op, other, 1));
        }
        x = Bench.filled();
        for (int i : Bench.NO_NUMBERS) {
            Bench.refused(first + i + ", 0, " + other + ", 1)", x, x.assign(kind, i, 0, other, 1));
            Bench.refused(first + "0, 0, " + other + ", " + i + ")", x, x.assign(kind, 0, 0, other, i));
        }
    }

    private static void refusesNoKind() {
        NumberProbe x = Bench.filled();
        for (int kind : Bench.NO_KINDS) {
            Bench.refused("assign(" + kind + ", 0, 0, 1, 1)", x, x.assign(kind, 0, 0, 1, 1));
            Bench.refused("assign(1, 0, 0, " + kind + ", 1)", x, x.assign(1, 0, 0, kind, 1));
        }
    }
}
