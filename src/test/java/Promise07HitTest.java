/** Promise 7: hit. */
public final class Promise07HitTest {
    public static void main(String[] args) {
        LightRays x = new LightRays(50);
        x.box(10, -50, -50, 20, 50, 50);
        x.box(-50, -50, 12, 50, 50, 20);
        x.kind(0, 1, 900);
        x.kind(1, 1, 333);
        wrongNumbers(x);
        for (int what = 0; what < 4; what++) {
            int w = what;
            Check.illegalState("hit before a ray", () -> x.hit(0, w));
            Check.illegalState("hit 99 before a ray", () -> x.hit(99, w));
        }
        x.ray(0, 0, 0, 6, 0, 4);
        due(x, 0, 0, 0, 5, 3);
        due(x, 1, 1, 2, 3, 1);
        due(x, 2, -1, -1, -1, -1);
        due(x, 29, -1, -1, -1, -1);
        due(x, 30, -1, -1, -1, -1);
        due(x, Integer.MAX_VALUE, -1, -1, -1, -1);
        wrongNumbers(x);
        x.ray(10, 0, 0, 50, 0, 0);
        due(x, 0, 0, 0, 0, 1);
        due(x, 1, -1, -1, -1, -1);
        x.ray(0, 0, 0, -1, 0, 0);
        due(x, 0, -1, -1, -1, -1);
        x.kind(0, 0, 0);
        x.ray(0, 0, 0, 100, 3, 4);
        due(x, 0, 0, 0, 1, 10);
        x.measure(0, 0, 0);
        x.fan(0, 0, 1);
        x.best(0, 0, 0, 1, 1, 1, 1);
        due(x, 0, 0, 0, 1, 10);
        Check.end();
    }

    private static void due(LightRays x, int k, int... wants) {
        for (int what = 0; what < wants.length; what++) {
            int w = what;
            Check.due("hit " + k + ", " + what, wants[what], () -> x.hit(k, w));
        }
    }

    private static void wrongNumbers(LightRays x) {
        for (int number : new int[] {-1, Integer.MIN_VALUE}) {
            Check.illegalArgument("hit k " + number, () -> x.hit(number, 0));
        }
        for (int number : new int[] {-1, 4, Integer.MIN_VALUE, Integer.MAX_VALUE}) {
            Check.illegalArgument("hit what " + number, () -> x.hit(0, number));
            Check.illegalArgument("hit what " + number + " of none", () -> x.hit(7, number));
        }
    }
}
