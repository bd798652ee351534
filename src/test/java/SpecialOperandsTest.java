/** Terms, the OPERATIONS with NaN, infinities and zeros of both signs: every pair of them, written out. */
public final class SpecialOperandsTest {
    // The rows and columns of the tables: x is that of the row, y that of the column.
    private static final String OPERANDS = "0 -0 1 -1 i -i n";

    private static final String[] PLUS = {
        "0  0  1  -1 i  -i n",
        "0  -0 1  -1 i  -i n",
        "1  1  2  0  i  -i n",
        "-1 -1 0  -2 i  -i n",
        "i  i  i  i  i  n  n",
        "-i -i -i -i n  -i n",
        "n  n  n  n  n  n  n",
    };

    private static final String[] MINUS = {
        "0  0  -1 1  -i i  n",
        "-0 0  -1 1  -i i  n",
        "1  1  0  2  -i i  n",
        "-1 -1 -2 0  -i i  n",
        "i  i  i  i  n  i  n",
        "-i -i -i -i -i n  n",
        "n  n  n  n  n  n  n",
    };

    private static final String[] TIMES = {
        "0  -0 0  -0 n  n  n",
        "-0 0  -0 0  n  n  n",
        "0  -0 1  -1 i  -i n",
        "-0 0  -1 1  -i i  n",
        "n  n  i  -i i  -i n",
        "n  n  -i i  -i i  n",
        "n  n  n  n  n  n  n",
    };

    private static final String[] BY = {
        "n  n  0  -0 0  -0 n",
        "n  n  -0 0  -0 0  n",
        "i  -i 1  -1 0  -0 n",
        "-i i  -1 1  -0 0  n",
        "i  -i i  -i n  n  n",
        "-i i  -i i  n  n  n",
        "n  n  n  n  n  n  n",
    };

    private static final String[] REST = {
        "n  n  0  0  0  0  n",
        "n  n  -0 -0 -0 -0 n",
        "n  n  0  0  1  1  n",
        "n  n  -0 -0 -1 -1 n",
        "n  n  n  n  n  n  n",
        "n  n  n  n  n  n  n",
        "n  n  n  n  n  n  n",
    };

    private static final String[] LESSER = {
        "0  -0 0  -1 0  -i n",
        "-0 -0 -0 -1 -0 -i n",
        "0  -0 1  -1 1  -i n",
        "-1 -1 -1 -1 -1 -i n",
        "0  -0 1  -1 i  -i n",
        "-i -i -i -i -i -i n",
        "n  n  n  n  n  n  n",
    };

    private static final String[] GREATER = {
        "0  0  1  0  i  0  n",
        "0  -0 1  -0 i  -0 n",
        "1  1  1  1  i  1  n",
        "0  -0 1  -1 i  -1 n",
        "i  i  i  i  i  i  n",
        "0  -0 1  -1 i  -i n",
        "n  n  n  n  n  n  n",
    };

    // Of these two y says nothing, a NaN neither.
    private static final String[] NEGATIVE = {
        "-0 -0 -0 -0 -0 -0 -0",
        "0  0  0  0  0  0  0",
        "-1 -1 -1 -1 -1 -1 -1",
        "1  1  1  1  1  1  1",
        "-i -i -i -i -i -i -i",
        "i  i  i  i  i  i  i",
        "n  n  n  n  n  n  n",
    };

    private static final String[] UNSIGNED = {
        "0  0  0  0  0  0  0",
        "0  0  0  0  0  0  0",
        "1  1  1  1  1  1  1",
        "1  1  1  1  1  1  1",
        "i  i  i  i  i  i  i",
        "i  i  i  i  i  i  i",
        "n  n  n  n  n  n  n",
    };

    public static void main(String[] args) {
        holds(0, PLUS);
        holds(1, MINUS);
        holds(2, TIMES);
        holds(3, BY);
        holds(4, REST);
        holds(5, LESSER);
        holds(6, GREATER);
        holds(7, NEGATIVE);
        holds(8, UNSIGNED);
        remaindersAreExactWithTheSignOfX();
        lesserAndGreaterOfTheEnds();
        signsOfTheEnds();
        Bench.end();
    }

    private static void holds(int op, String[] table) {
        String[] operands = OPERANDS.split(" ");
        for (int row = 0; row < operands.length; row++) {
            String[] results = table[row].split(" +");
            for (int column = 0; column < operands.length; column++) {
                String x = operands[row];
                String y = operands[column];
                String what = x + " op " + op + " " + y + " is " + results[column];
                Bench.operates(what, Bench.SINGLES, op, single(x), single(y), single(results[column]));
                Bench.operates(what, Bench.DOUBLES, op, twofold(x), twofold(y), twofold(results[column]));
            }
        }
    }

    private static long single(String name) {
        int magnitude;
        switch (name.substring(name.length() - 1)) {
            case "0":
                magnitude = 0x00000000;
                break;
            case "1":
                magnitude = 0x3F800000;
                break;
            case "2":
                magnitude = 0x40000000;
                break;
            case "i":
                magnitude = 0x7F800000;
                break;
            default:
                magnitude = 0x7FC00000;
        }
        return name.startsWith("-") ? magnitude | 0x80000000 : magnitude;
    }

    private static long twofold(String name) {
        long magnitude;
        switch (name.substring(name.length() - 1)) {
            case "0":
                magnitude = 0x0000000000000000L;
                break;
            case "1":
                magnitude = 0x3FF0000000000000L;
                break;
            case "2":
                magnitude = 0x4000000000000000L;
                break;
            case "i":
                magnitude = 0x7FF0000000000000L;
                break;
            default:
                magnitude = 0x7FF8000000000000L;
        }
        return name.startsWith("-") ? magnitude | 0x8000000000000000L : magnitude;
    }

    private static void remaindersAreExactWithTheSignOfX() {
        rest("5 by 3", 5, 3, 2);
        rest("-5 by 3", -5, 3, -2);
        rest("5 by -3", 5, -3, 2);
        rest("-5 by -3", -5, -3, -2);
        rest("6 by 3", 6, 3, 0.0f);
        rest("-6 by 3", -6, 3, -0.0f);
        rest("5.75 by 0.5", 5.75f, 0.5f, 0.25f);
        rest("0.5 by 5", 0.5f, 5, 0.5f);
        // 2^100 is 1 by 3, for 2 is -1: no digit of the quotient may be lost.
        rest("2^100 by 3", 0x1p100f, 3, 1);
        rest("2^101 by 3", 0x1p101f, 3, 2);
        Bench.operates("the greatest by 3 least", Bench.SINGLES, 4, 0x7F7FFFFF, 3, 0);
        Bench.operates("the greatest by 11 least", Bench.SINGLES, 4, 0x7F7FFFFF, 11, 10);
        Bench.operates("the greatest by 7 least", Bench.DOUBLES, 4, 0x7FEFFFFFFFFFFFFFL, 7, 5);
        Bench.operates("the least by the greatest", Bench.SINGLES, 4, 0x80000001, 0x7F7FFFFF, 0x80000001);
        Bench.operates("the least by infinity", Bench.DOUBLES, 4, 0x8000000000000001L, 0x7FF0000000000000L,
            0x8000000000000001L);
    }

    private static void rest(String what, float x, float y, float want) {
        Bench.operates(what, Bench.SINGLES, 4, Bench.told(x), Bench.told(y), Bench.told(want));
        long twofoldWant = Bench.told((double) want);
        Bench.operates(what, Bench.DOUBLES, 4, Bench.told((double) x), Bench.told((double) y), twofoldWant);
    }

    private static void lesserAndGreaterOfTheEnds() {
        Bench.operates("lesser of two neighbours", Bench.SINGLES, 5, 0x3F800001, 0x3F800000, 0x3F800000);
        Bench.operates("greater of two neighbours", Bench.SINGLES, 6, 0x3F800001, 0x3F800000, 0x3F800001);
        Bench.operates("lesser of two neighbours below 0", Bench.SINGLES, 5, 0xBF800001, 0xBF800000, 0xBF800001);
        Bench.operates("greater of two neighbours below 0", Bench.SINGLES, 6, 0xBF800001, 0xBF800000, 0xBF800000);
        Bench.operates("lesser of -0.0 and the least", Bench.DOUBLES, 5, Long.MIN_VALUE, 1, Long.MIN_VALUE);
        Bench.operates("greater of 0.0 and -least", Bench.DOUBLES, 6, 0, 0x8000000000000001L, 0);
        Bench.operates("greater of the greatest and infinity", Bench.DOUBLES, 6, 0x7FEFFFFFFFFFFFFFL,
            0x7FF0000000000000L, 0x7FF0000000000000L);
    }

    private static void signsOfTheEnds() {
        Bench.operates("-least", Bench.SINGLES, 7, 0x00000001, 0, 0x80000001);
        Bench.operates("-greatest", Bench.SINGLES, 7, 0x7F7FFFFF, 0, 0xFF7FFFFF);
        Bench.operates("-least", Bench.DOUBLES, 7, 1, 0, 0x8000000000000001L);
        Bench.operates("-greatest", Bench.DOUBLES, 7, 0xFFEFFFFFFFFFFFFFL, 0, 0x7FEFFFFFFFFFFFFFL);
        Bench.operates("least without its sign", Bench.SINGLES, 8, 0x80000001, 0, 0x00000001);
        Bench.operates("greatest without its sign", Bench.DOUBLES, 8, 0xFFEFFFFFFFFFFFFFL, 0, 0x7FEFFFFFFFFFFFFFL);
    }
}
