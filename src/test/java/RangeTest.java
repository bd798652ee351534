import java.util.Arrays;

/**
 * Promises 2 to 13: each number that a call takes, below, at and above its range, together with all the others
 * so. A call with one or more of them out of range answers as the document says and changes nothing; a call with
 * none answers what is due.
 */
public final class RangeTest {
    private static final int LEAST = Integer.MIN_VALUE;
    private static final int GREATEST = Integer.MAX_VALUE;

    private static final int[] KIND = {LEAST, -1, 0, 1, 2, 3, 4, GREATEST};
    private static final int[] NUMBER = {LEAST, -1, 0, 5, 6, GREATEST};
    private static final int[] WHICH = {LEAST, -1, 0, 14, 15, 20, 21, GREATEST};
    private static final int[] OPERATION = {LEAST, -1, 0, 8, 9, 14, 15, GREATEST};
    private static final int[] ASSIGNMENT = {LEAST, -1, 0, 3, 4, GREATEST};
    private static final int[] WIDTH = {LEAST, -1, 0, 3, 4, GREATEST};
    private static final int[] TERMS = {LEAST, -1, 0, 1, 40, 41, GREATEST};

    /** A call of the face with the numbers p, on an object made by Bench.filled(). */
    private interface Call {
        long on(NumberProbe x, int[] p);
    }

    private interface InRange {
        boolean are(int[] p);
    }

    /** What a call with all numbers in range answers. */
    private interface Due {
        long of(int[] p);
    }

    public static void main(String[] args) {
        put();
        boundary();
        bits();
        operate();
        assign();
        convert();
        narrow();
        compare();
        order();
        sort();
        series();
        polynomial();
        Bench.end();
    }

    private static void put() {
        tries("put", new int[][] {KIND, NUMBER}, p -> isNumber(p[0], p[1]), (x, p) -> x.put(p[0], p[1], 7),
            p -> NumberProbe.DONE, NumberProbe.REFUSED);
    }

    private static void boundary() {
        tries("boundary", new int[][] {KIND, NUMBER, WHICH},
            p -> isNumber(p[0], p[1]) && p[2] >= 0 && p[2] <= (p[0] == Bench.INTS ? 14 : 20),
            (x, p) -> x.boundary(p[0], p[1], p[2]), p -> NumberProbe.DONE, NumberProbe.REFUSED);
    }

    private static void bits() {
        tries("bits", new int[][] {KIND, NUMBER}, p -> isNumber(p[0], p[1]), (x, p) -> x.bits(p[0], p[1]),
            p -> Bench.filling(p[0], p[1]), 0);
    }

    private static void operate() {
        tries("operate", new int[][] {KIND, OPERATION, NUMBER, NUMBER, NUMBER},
            p -> isKind(p[0]) && p[1] >= 0 && p[1] <= (p[0] >= Bench.INTS ? 14 : 8)
                && isIndex(p[2]) && isIndex(p[3]) && isIndex(p[4]),
            (x, p) -> x.operate(p[0], p[1], p[2], p[3], p[4]), p -> NumberProbe.DONE, NumberProbe.REFUSED);
    }

    private static void assign() {
        tries("assign", new int[][] {KIND, NUMBER, ASSIGNMENT, KIND, NUMBER},
            p -> isNumber(p[0], p[1]) && p[2] >= 0 && p[2] <= 3 && isNumber(p[3], p[4]),
            (x, p) -> x.assign(p[0], p[1], p[2], p[3], p[4]), p -> NumberProbe.DONE, NumberProbe.REFUSED);
    }

    private static void convert() {
        tries("convert", new int[][] {KIND, NUMBER, KIND, NUMBER}, p -> isNumber(p[0], p[1]) && isNumber(p[2], p[3]),
            (x, p) -> x.convert(p[0], p[1], p[2], p[3]), p -> NumberProbe.DONE, NumberProbe.REFUSED);
    }

    private static void narrow() {
        // As INTS the fillings are 1, 6, -20, -25, 300, 305, 0, -5: all of them but 300 and 305 are bytes.
        tries("narrow", new int[][] {KIND, NUMBER, WIDTH}, p -> isNumber(p[0], p[1]) && p[2] >= 0 && p[2] <= 3,
            (x, p) -> x.narrow(p[0], p[1], p[2]), p -> narrowed(p[0], p[1], p[2]), 0);
    }

    private static long narrowed(int kind, int i, int to) {
        int[] first = {1 + i, -20 - i, 300 + i, -i};
        return to == 0 ? (byte) first[kind] : first[kind];
    }

    private static void compare() {
        tries("compare", new int[][] {KIND, NUMBER, NUMBER}, p -> isNumber(p[0], p[1]) && isNumber(p[0], p[2]),
            (x, p) -> x.compare(p[0], p[1], p[2]), p -> compared(fillingsInOrder(p)), NumberProbe.REFUSED);
    }

    private static void order() {
        tries("order", new int[][] {KIND, NUMBER, NUMBER}, p -> isNumber(p[0], p[1]) && isNumber(p[0], p[2]),
            (x, p) -> x.order(p[0], p[1], p[2]), p -> fillingsInOrder(p), NumberProbe.REFUSED);
    }

    /** The fillings of SINGLES and INTS rise with their number, those of DOUBLES and LONGS fall. */
    private static int fillingsInOrder(int[] p) {
        boolean rise = p[0] == Bench.SINGLES || p[0] == Bench.INTS;
        return rise ? Integer.compare(p[1], p[2]) : Integer.compare(p[2], p[1]);
    }

    private static int compared(int order) {
        if (order == 0) {
            return 2 + 8 + 16 + 64;
        }
        return order < 0 ? 1 + 2 + 32 + 128 : 4 + 8 + 32 + 64;
    }

    private static void sort() {
        // The SINGLES are finite, the DOUBLES finite and below 0, none of them whole.
        int[] due = {4, 4 + 32, 0, 0};
        tries("sort", new int[][] {KIND, NUMBER}, p -> isNumber(p[0], p[1]), (x, p) -> x.sort(p[0], p[1]),
            p -> due[p[0]], NumberProbe.REFUSED);
    }

    private static void series() {
        tries("series", new int[][] {NUMBER, NUMBER, TERMS, NUMBER},
            p -> isIndex(p[0]) && isIndex(p[1]) && p[2] >= 0 && p[2] <= 40 && isIndex(p[3]),
            (x, p) -> x.series(p[0], p[1], p[2], p[3]), p -> NumberProbe.DONE, NumberProbe.REFUSED);
    }

    private static void polynomial() {
        tries("polynomial", new int[][] {NUMBER, NUMBER}, p -> isIndex(p[0]) && isIndex(p[1]),
            (x, p) -> x.polynomial(p[0], p[1]), p -> NumberProbe.DONE, NumberProbe.REFUSED);
    }

    private static boolean isKind(int kind) {
        return kind >= 0 && kind <= 3;
    }

    private static boolean isIndex(int i) {
        return i >= 0 && i <= 5;
    }

    private static boolean isNumber(int kind, int i) {
        return isKind(kind) && isIndex(i);
    }

    private static void tries(String name, int[][] choices, InRange inRange, Call call, Due due, long outOfRange) {
        int all = 1;
        for (int[] choice : choices) {
            all *= choice.length;
        }
        for (int number = 0; number < all; number++) {
            int[] p = chosen(choices, number);
            String text = name + Arrays.toString(p);
            NumberProbe x = Bench.filled();
            if (inRange.are(p)) {
                Bench.due(text, call.on(x, p), due.of(p));
            } else {
                Bench.due(text, call.on(x, p), outOfRange);
                Bench.unchanged(text, x);
            }
        }
    }

    private static int[] chosen(int[][] choices, int number) {
        int[] p = new int[choices.length];
        int left = number;
        for (int k = 0; k < p.length; k++) {
            p[k] = choices[k][left % choices[k].length];
            left /= choices[k].length;
        }
        return p;
    }
}
