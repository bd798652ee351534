/** README.md: the example under "Use", call by call. */
public final class ReadmeTest {
    public static void main(String[] args) {
        NumberProbe probe = new NumberProbe();
        Bench.due("put(0, 0, 0x3F800000)", probe.put(0, 0, 0x3F800000L), NumberProbe.DONE);
        Bench.due("boundary(0, 1, 4)", probe.boundary(0, 1, 4), NumberProbe.DONE);
        Bench.due("operate(0, 3, 0, 1, 2)", probe.operate(0, 3, 0, 1, 2), NumberProbe.DONE);
        Bench.due("bits(0, 2)", probe.bits(0, 2), 0x7F800000L);
        Bench.due("convert(0, 2, 2, 0)", probe.convert(0, 2, 2, 0), NumberProbe.DONE);
        Bench.due("bits(2, 0)", probe.bits(2, 0), 2147483647);
        Bench.end();
    }
}
