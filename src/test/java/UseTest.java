/** An object that holds as much as it can answers as due up to its 512th call. */
public final class UseTest {
    private static int calls = 0;

    public static void main(String[] args) {
        Check.sentence("An object is used for at most 512 calls after it has been made");
        LightRays x = new LightRays(1000);
        fill(x);
        while (calls < 508) {
            int before = calls;
            due("ray " + before, 2, () -> x.ray(-999, 0, 0, 1, 0, 0));
            due("hits of it", 30, () -> x.told(0));
            due("measure " + before, 38 * 1000000000L, () -> x.measure(0, 0, 0));
        }
        due("ray", 2, () -> x.ray(-999, 0, 0, 1, 0, 0));
        due("its last hit's time", 1998 * 30, () -> x.hit(29, 2));
        due("best", 0, () -> x.best(-700, -700, 0, 8, 8, 100, 1));
        Check.illegalState("the 512th call, refused", () -> x.box(0, 0, 0, 1, 1, 1));
        calls++;
        Check.due("calls", 512, () -> calls);
        Check.end();
    }

    private static void due(String call, long want, Check.Call made) {
        calls++;
        Check.due(call, want, made);
    }

    /** Two walls that throw rays to and fro, and small panes of glass in a far corner. */
    private static void fill(LightRays x) {
        due("box", 0, () -> x.box(999, -1000, -1000, 1000, 1000, 1000));
        due("box", 1, () -> x.box(-1000, -1000, -1000, -999, 1000, 1000));
        for (int box = 2; box < 20; box++) {
            int b = box;
            due("box", b, () -> x.box(900, 900, 900 + 2 * b, 901, 901, 901 + 2 * b));
        }
        for (int box = 0; box < 20; box++) {
            int b = box;
            due("kind", 0, () -> x.kind(b, b < 2 ? 1 : 2, 1000));
        }
        for (int octant = 0; octant < 8; octant++) {
            int o = octant;
            due("sky", 0, () -> x.sky(o, 1000));
        }
        due("fan", 1, () -> x.fan(1, 0, 0));
        due("fan", 2, () -> x.fan(-1, 0, 0));
        for (int i = 2; i < 40; i++) {
            int n = i;
            due("fan", n + 1, () -> x.fan(0, n % 2 == 0 ? n : -n, 0));
        }
    }
}
