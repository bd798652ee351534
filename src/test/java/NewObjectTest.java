/** Promise 1: a new object holds zeros alone, whatever other objects hold. */
public final class NewObjectTest {
    public static void main(String[] args) {
        Bench.filled();
        NumberProbe x = new NumberProbe();
        for (int kind = 0; kind < 4; kind++) {
            for (int i = 0; i < 6; i++) {
                Bench.due("bits(" + kind + ", " + i + ") of a new object", x.bits(kind, i), 0);
            }
        }
        NumberProbe y = Bench.filled();
        x.put(2, 3, 77);
        Bench.unchanged("put on another object", y);
        Bench.end();
    }
}
