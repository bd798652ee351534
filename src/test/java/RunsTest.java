import java.util.Arrays;

/** Runs of 512 calls on one object, some of them out of range, against Java's own numbers in a PlainProbe. */
public final class RunsTest {
    private static final int RUNS = 400;
    // With the look at the 24 numbers at the end 512: more is not promised for one object.
    private static final int CALLS = 488;

    private final NumberProbe probe = new NumberProbe();
    private final PlainProbe plain = new PlainProbe();
    private final int run;
    private int drawn = 0;

    private RunsTest(int run) {
        this.run = run;
    }

    public static void main(String[] args) {
        for (int run = 0; run < RUNS; run++) {
            new RunsTest(run).goes();
        }
        Bench.end();
    }

    /** Half of the calls change something, the other half tell what there is. */
    private void goes() {
        for (int k = 0; k < CALLS / 2; k++) {
            changes();
            tells();
        }
        for (int kind = 0; kind < 4; kind++) {
            for (int i = 0; i < 6; i++) {
                tellsBits(kind, i);
            }
        }
    }

    private void changes() {
        switch (below(8)) {
            case 0:
                puts(kind(), number());
                break;
            case 1:
                takesABoundary(kind(), number(), around(21));
                break;
            case 2:
            case 3:
                operates(kind(), around(15), number(), number(), number());
                break;
            case 4:
                assigns(kind(), number(), around(4), kind(), number());
                break;
            case 5:
                converts(kind(), number(), kind(), number());
                break;
            case 6:
                sums(number(), number(), around(41), number());
                break;
            default:
                solves(number(), number());
        }
    }

    private void tells() {
        switch (below(8)) {
            case 0:
                narrows(kind(), number(), around(4));
                break;
            case 1:
                compares(kind(), number(), number());
                break;
            case 2:
                orders(kind(), number(), number());
                break;
            case 3:
                sorts(kind(), number());
                break;
            default:
                tellsBits(kind(), number());
        }
    }

    private void puts(int kind, int i) {
        long bits = next();
        if (kind == Bench.SINGLES || kind == Bench.DOUBLES) {
            bits = Bench.scatteredFloat(kind, next());
        } else if (below(2) == 0) {
            bits = bits >> below(64);
        }
        same("put", probe.put(kind, i, bits), plain.put(kind, i, bits), kind, i);
    }

    private void takesABoundary(int kind, int i, int which) {
        same("boundary", probe.boundary(kind, i, which), plain.boundary(kind, i, which), kind, i, which);
    }

    private void operates(int kind, int op, int a, int b, int to) {
        same("operate", probe.operate(kind, op, a, b, to), plain.operate(kind, op, a, b, to), kind, op, a, b, to);
    }

    private void assigns(int kind, int a, int op, int other, int b) {
        same("assign", probe.assign(kind, a, op, other, b), plain.assign(kind, a, op, other, b), kind, a, op, other, b);
    }

    private void converts(int kind, int i, int other, int to) {
        same("convert", probe.convert(kind, i, other, to), plain.convert(kind, i, other, to), kind, i, other, to);
    }

    private void sums(int a, int b, int n, int to) {
        same("series", probe.series(a, b, n, to), plain.series(a, b, n, to), a, b, n, to);
    }

    private void solves(int x, int to) {
        same("polynomial", probe.polynomial(x, to), plain.polynomial(x, to), x, to);
    }

    private void narrows(int kind, int i, int to) {
        same("narrow", probe.narrow(kind, i, to), plain.narrow(kind, i, to), kind, i, to);
    }

    private void compares(int kind, int a, int b) {
        same("compare", probe.compare(kind, a, b), plain.compare(kind, a, b), kind, a, b);
    }

    private void orders(int kind, int a, int b) {
        same("order", probe.order(kind, a, b), plain.order(kind, a, b), kind, a, b);
    }

    private void sorts(int kind, int i) {
        same("sort", probe.sort(kind, i), plain.sort(kind, i), kind, i);
    }

    private void tellsBits(int kind, int i) {
        same("bits", probe.bits(kind, i), plain.bits(kind, i), kind, i);
    }

    private void same(String name, long got, long want, int... p) {
        if (got != want) {
            Bench.due("run " + run + ": " + name + Arrays.toString(p), got, want);
        }
    }

    private long next() {
        drawn++;
        return Bench.scattered(run * 1000003L + drawn) >>> 1;
    }

    private int below(int bound) {
        return (int) (next() % bound);
    }

    private int kind() {
        return around(4);
    }

    private int number() {
        return around(6);
    }

    /** Mostly 0 to count - 1, now and then the number below or above. */
    private int around(int count) {
        int choice = below(50);
        if (choice == 0) {
            return -1;
        }
        return choice == 1 ? count : below(count);
    }
}
