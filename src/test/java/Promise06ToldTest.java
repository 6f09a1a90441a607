/** Promise 6: told. */
public final class Promise06ToldTest {
    public static void main(String[] args) {
        LightRays x = new LightRays(50);
        x.box(10, -50, -50, 20, 50, 50);
        x.box(-50, -50, 10, 50, 50, 20);
        x.kind(0, 1, 900);
        x.kind(1, 1, 333);
        wrongWhat(x);
        for (int what = 0; what < 5; what++) {
            int w = what;
            Check.illegalState("told " + what + " before a ray", () -> x.told(w));
        }
        x.ray(0, 1, 2, 3, -4, 1);
        due(x, "both mirrors", 2, 299700, -3, -4, -1);
        x.ray(0, 0, 0, -5, 6, -7);
        due(x, "no hit", 0, 1000000, -5, 6, -7);
        x.kind(0, 0, 0);
        x.ray(0, 0, 0, 2, 0, 0);
        due(x, "a SOLID hit", 1, 1000000, 2, 0, 0);
        x.kind(1, 2, 1);
        x.ray(0, 0, 0, 0, 100, 100);
        due(x, "GLASS", 1, 1000, 0, 100, 100);
        x.fan(1, 0, 0);
        x.measure(0, 0, 0);
        x.best(0, 0, 0, 2, 2, 1, 0);
        due(x, "measure and best are no ray()", 1, 1000, 0, 100, 100);
        x.off(1, true);
        x.kind(1, 0, 0);
        due(x, "what is told stays when boxes change", 1, 1000, 0, 100, 100);
        wrongWhat(x);
        Check.end();
    }

    private static void due(LightRays x, String name, int... wants) {
        for (int what = 0; what < wants.length; what++) {
            int w = what;
            Check.due(name + ": told " + what, wants[what], () -> x.told(w));
        }
    }

    private static void wrongWhat(LightRays x) {
        for (int what : new int[] {-1, 5, Integer.MIN_VALUE, Integer.MAX_VALUE}) {
            Check.illegalArgument("told " + what, () -> x.told(what));
        }
    }
}
