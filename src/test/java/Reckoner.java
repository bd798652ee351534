/** The OPERATIONS as Java's own floats, doubles, ints and longs do them. */
final class Reckoner {
    private Reckoner() {
    }

    static float reckoned(int op, float x, float y) {
        switch (op) {
            case 0:
                return x + y;
            case 1:
                return x - y;
            case 2:
                return x * y;
            case 3:
                return x / y;
            case 4:
                return x % y;
            case 5:
                return Math.min(x, y);
            case 6:
                return Math.max(x, y);
            case 7:
                return -x;
            default:
                return Math.abs(x);
        }
    }

    static double reckoned(int op, double x, double y) {
        switch (op) {
            case 0:
                return x + y;
            case 1:
                return x - y;
            case 2:
                return x * y;
            case 3:
                return x / y;
            case 4:
                return x % y;
            case 5:
                return Math.min(x, y);
            case 6:
                return Math.max(x, y);
            case 7:
                return -x;
            default:
                return Math.abs(x);
        }
    }

    static int reckoned(int op, int x, int y) {
        switch (op) {
            case 0:
                return x + y;
            case 1:
                return x - y;
            case 2:
                return x * y;
            case 3:
                return x / y;
            case 4:
                return x % y;
            case 5:
                return x < y ? x : y;
            case 6:
                return x > y ? x : y;
            case 7:
                return -x;
            case 8:
                return x < 0 ? -x : x;
            case 9:
                return x << y;
            case 10:
                return x >> y;
            case 11:
                return x >>> y;
            case 12:
                return x & y;
            case 13:
                return x | y;
            default:
                return x ^ y;
        }
    }

    static long reckoned(int op, long x, long y) {
        switch (op) {
            case 0:
                return x + y;
            case 1:
                return x - y;
            case 2:
                return x * y;
            case 3:
                return x / y;
            case 4:
                return x % y;
            case 5:
                return x < y ? x : y;
            case 6:
                return x > y ? x : y;
            case 7:
                return -x;
            case 8:
                return x < 0 ? -x : x;
            case 9:
                return x << y;
            case 10:
                return x >> y;
            case 11:
                return x >>> y;
            case 12:
                return x & y;
            case 13:
                return x | y;
            default:
                return x ^ y;
        }
    }
}
