/** Promises 6 and 14: assign, against Java's own compound assignments, the two kinds being the same ones too. */
public final class AssignTest {
    private static final int EVERY = 3;

    public static void main(String[] args) {
        for (int kind = 0; kind < 4; kind++) {
            for (int other = 0; other < 4; other++) {
                assignsSamples(kind, other);
                refuses(kind, other);
            }
        }
        keepsTheDocumentsEdges();
        answersDivide();
        assignsToItself();
        refusesNoKind();
        Bench.end();
    }

    private static void assignsSamples(int kind, int other) {
        long[] left = Bench.samples(kind);
        long[] right = Bench.samples(other);
        for (int i = 0; i < left.length; i++) {
            for (int k = i % EVERY; k < right.length; k += EVERY) {
                assigns(kind, left[i], other, right[k]);
            }
        }
    }

    private static void assigns(int kind, long a, int other, long b) {
        NumberProbe x = new NumberProbe();
        x.put(other, 5, b);
        for (int op = 0; op < 4; op++) {
            if (op == 3 && kind >= 2 && other >= 2 && b == 0) {
                continue;
            }
            x.put(kind, 2, a);
            Bench.due("assign(" + kind + ", 2, " + op + ", " + other + ", 5)", x.assign(kind, 2, op, other, 5), 0);
            String what = "kind " + kind + " " + a + " op " + op + " kind " + other + " " + b;
            Bench.due(what, x.bits(kind, 2), wanted(kind, a, op, other, b));
            Bench.due("the right side of " + what, x.bits(other, 5), b);
        }
    }

    private static long wanted(int kind, long a, int op, int other, long b) {
        switch (kind) {
            case Bench.SINGLES:
                return Bench.told(assigned(Bench.single(a), op, other, b));
            case Bench.DOUBLES:
                return Bench.told(assigned(Bench.twofold(a), op, other, b));
            case Bench.INTS:
                return assigned((int) a, op, other, b);
            default:
                return assigned(a, op, other, b);
        }
    }

    private static float assigned(float a, int op, int other, long b) {
        float f = Bench.single(b);
        double d = Bench.twofold(b);
        int i = (int) b;
        switch (4 * other + op) {
            case 0: a += f; break;
            case 1: a -= f; break;
            case 2: a *= f; break;
            case 3: a /= f; break;
            case 4: a += d; break;
            case 5: a -= d; break;
            case 6: a *= d; break;
            case 7: a /= d; break;
            case 8: a += i; break;
            case 9: a -= i; break;
            case 10: a *= i; break;
            case 11: a /= i; break;
            case 12: a += b; break;
            case 13: a -= b; break;
            case 14: a *= b; break;
            default: a /= b; break;
        }
        return a;
    }

    private static double assigned(double a, int op, int other, long b) {
        float f = Bench.single(b);
        double d = Bench.twofold(b);
        int i = (int) b;
        switch (4 * other + op) {
            case 0: a += f; break;
            case 1: a -= f; break;
            case 2: a *= f; break;
            case 3: a /= f; break;
            case 4: a += d; break;
            case 5: a -= d; break;
            case 6: a *= d; break;
            case 7: a /= d; break;
            case 8: a += i; break;
            case 9: a -= i; break;
            case 10: a *= i; break;
            case 11: a /= i; break;
            case 12: a += b; break;
            case 13: a -= b; break;
            case 14: a *= b; break;
            default: a /= b; break;
        }
        return a;
    }

    private static int assigned(int a, int op, int other, long b) {
        float f = Bench.single(b);
        double d = Bench.twofold(b);
        int i = (int) b;
        switch (4 * other + op) {
            case 0: a += f; break;
            case 1: a -= f; break;
            case 2: a *= f; break;
            case 3: a /= f; break;
            case 4: a += d; break;
            case 5: a -= d; break;
            case 6: a *= d; break;
            case 7: a /= d; break;
            case 8: a += i; break;
            case 9: a -= i; break;
            case 10: a *= i; break;
            case 11: a /= i; break;
            case 12: a += b; break;
            case 13: a -= b; break;
            case 14: a *= b; break;
            default: a /= b; break;
        }
        return a;
    }

    private static long assigned(long a, int op, int other, long b) {
        float f = Bench.single(b);
        double d = Bench.twofold(b);
        int i = (int) b;
        switch (4 * other + op) {
            case 0: a += f; break;
            case 1: a -= f; break;
            case 2: a *= f; break;
            case 3: a /= f; break;
            case 4: a += d; break;
            case 5: a -= d; break;
            case 6: a *= d; break;
            case 7: a /= d; break;
            case 8: a += i; break;
            case 9: a -= i; break;
            case 10: a *= i; break;
            case 11: a /= i; break;
            case 12: a += b; break;
            case 13: a -= b; break;
            case 14: a *= b; break;
            default: a /= b; break;
        }
        return a;
    }

    private static void keepsTheDocumentsEdges() {
        becomes("an INT in SINGLES", Bench.INTS, 16777217, 0, Bench.SINGLES, Bench.told(0.0f), 16777216);
        becomes("an INT in DOUBLES", Bench.INTS, 16777217, 0, Bench.DOUBLES, Bench.told(0.5), 16777217);
        becomes("an INT in LONGS", Bench.INTS, 5, 0, Bench.LONGS, 0x700000000L, 5);
        becomes("an INT in LONGS", Bench.INTS, Integer.MIN_VALUE, 3, Bench.LONGS, -1, Integer.MIN_VALUE);
        becomes("an INT by 0.0", Bench.INTS, 5, 3, Bench.SINGLES, Bench.told(0.0f), Integer.MAX_VALUE);
        becomes("a LONG by -0.0", Bench.LONGS, 5, 3, Bench.DOUBLES, Bench.told(-0.0), Long.MIN_VALUE);
        becomes("the INT 0 by 0.0", Bench.INTS, 0, 3, Bench.SINGLES, Bench.told(0.0f), 0);
        becomes("a SINGLE by the INT 0", Bench.SINGLES, Bench.told(-1f), 3, Bench.INTS, 0, 0xFFFFFFFFFF800000L);
        becomes("a SINGLE in DOUBLES", Bench.SINGLES, Bench.told(3e38f), 2, Bench.DOUBLES, Bench.told(1e-40),
            Bench.told((float) (3e38f * 1e-40)));
    }

    private static void becomes(String what, int kind, long a, int op, int other, long b, long want) {
        NumberProbe x = new NumberProbe();
        x.put(kind, 0, a);
        x.put(other, 1, b);
        Bench.due(what, x.assign(kind, 0, op, other, 1), NumberProbe.DONE);
        Bench.due(what, x.bits(kind, 0), want);
    }

    private static void answersDivide() {
        for (int kind = 2; kind < 4; kind++) {
            for (int other = 2; other < 4; other++) {
                NumberProbe x = Bench.filled();
                x.put(other, 4, 0);
                String call = "assign(" + kind + ", 1, 3, " + other + ", 4)";
                Bench.due(call, x.assign(kind, 1, 3, other, 4), NumberProbe.DIVIDE);
                for (int each = 0; each < 4; each++) {
                    Bench.unchangedBut(call, x, each, each == other ? 4 : -1);
                }
            }
        }
    }

    private static void assignsToItself() {
        NumberProbe x = Bench.filled();
        Bench.due("assign(3, 2, 1, 3, 2)", x.assign(3, 2, 1, 3, 2), NumberProbe.DONE);
        Bench.due("a LONG less itself", x.bits(3, 2), 0);
        Bench.unchangedBut("assign(3, 2, 1, 3, 2)", x, 3, 2);
        Bench.due("assign(0, 2, 0, 0, 2)", x.assign(0, 2, 0, 0, 2), NumberProbe.DONE);
        Bench.due("a SINGLE and itself", x.bits(0, 2), Bench.told(7.0f));
        Bench.unchangedBut("assign(0, 2, 0, 0, 2)", x, 0, 2);
    }

    private static void refuses(int kind, int other) {
        String first = "assign(" + kind + ", ";
        NumberProbe x = Bench.filled();
        for (int op : new int[] {-1, 4, 5, Integer.MIN_VALUE, Integer.MAX_VALUE}) {
            Bench.refused(first + "0, " + op + ", " + other + ", 1)", x, x.assign(kind, 0, op, other, 1));
        }
        x = Bench.filled();
        for (int i : Bench.NO_NUMBERS) {
            Bench.refused(first + i + ", 0, " + other + ", 1)", x, x.assign(kind, i, 0, other, 1));
            Bench.refused(first + "0, 0, " + other + ", " + i + ")", x, x.assign(kind, 0, 0, other, i));
        }
    }

    private static void refusesNoKind() {
        NumberProbe x = Bench.filled();
        for (int kind : Bench.NO_KINDS) {
            Bench.refused("assign(" + kind + ", 0, 0, 1, 1)", x, x.assign(kind, 0, 0, 1, 1));
            Bench.refused("assign(1, 0, 0, " + kind + ", 1)", x, x.assign(1, 0, 0, kind, 1));
        }
    }
}
