/** Promise 7: hit. */
public final class Promise07HitTest {
    public static void main(String[] args) {
        ofTheLatestRay();
        lowestTerms();
        belowIsOneAtLeast();
        noneSuch();
        whatsBounds();
        kBelowZero();
        thereWasNoRay();
        argumentBeforeState();
        Check.end();
    }

    private static LightRays twoMirrors() {
        LightRays x = new LightRays(50);
        x.box(10, -50, -50, 20, 50, 50);
        x.box(-50, -50, 12, 50, 50, 20);
        x.kind(0, 1, 900);
        x.kind(1, 1, 333);
        return x;
    }

    private static void due(LightRays x, int k, int... wants) {
        for (int what = 0; what < wants.length; what++) {
            int w = what;
            Check.due("hit " + k + ", " + what, wants[what], () -> x.hit(k, w));
        }
    }

    private static void ofTheLatestRay() {
        Check.sentence("Of the k-th hit of the latest ray(): what = 0 the box, 1 the AXIS");
        LightRays x = twoMirrors();
        x.ray(0, 0, 0, 6, 0, 4);
        due(x, 0, 0, 0, 5, 3);
        due(x, 1, 1, 2, 3, 1);
        x.ray(0, 0, 0, 0, 0, 4);
        due(x, 0, 1, 2, 3, 1);
        due(x, 1, -1, -1, -1, -1);
        x.fan(1, 0, 0);
        x.measure(0, 0, 0);
        x.best(0, 0, 0, 1, 1, 1, 1);
        x.off(1, true);
        due(x, 0, 1, 2, 3, 1);
        x.box(-50, 5, -50, 50, 9, 50);
        x.ray(0, 0, 0, 0, 2, 0);
        due(x, 0, 2, 1, 5, 2);
    }

    private static void lowestTerms() {
        Check.sentence("2 the time, in lowest terms, above, 3 below");
        LightRays x = twoMirrors();
        x.off(1, true);
        for (int speed = 1; speed <= 100; speed++) {
            int common = 1;
            for (int i = 2; i <= 10; i++) {
                common = 10 % i == 0 && speed % i == 0 ? i : common;
            }
            x.ray(0, 0, 0, speed, 0, 0);
            int above = 10 / common;
            int below = speed / common;
            Check.due("above of 10/" + speed, above, () -> x.hit(0, 2));
            Check.due("below of 10/" + speed, below, () -> x.hit(0, 3));
        }
        x.ray(30, 0, 0, -15, 0, 0);
        due(x, 0, 0, 0, 2, 3);
    }

    private static void belowIsOneAtLeast() {
        Check.sentence("below (1 at least)");
        LightRays x = twoMirrors();
        x.ray(10, 0, 0, 50, 0, 0);
        due(x, 0, 0, 0, 0, 1);
        x.ray(20, 0, 0, -7, 0, 0);
        due(x, 0, 0, 0, 0, 1);
        x.ray(0, 0, 0, 10, 0, 0);
        due(x, 0, 0, 0, 1, 1);
        x.ray(25, 0, 0, -5, 0, 0);
        due(x, 0, 0, 0, 1, 1);
    }

    private static void noneSuch() {
        Check.sentence("NONE if there is none such (NONE = -1)");
        Check.due("NONE", -1, () -> LightRays.NONE);
        LightRays x = twoMirrors();
        x.ray(0, 0, 0, 6, 0, 4);
        // The last two times 3 wrap round to numbers of hits that there are.
        for (int k : new int[] {2, 3, 29, 30, 31, Integer.MAX_VALUE, 1431655766, 715827883}) {
            due(x, k, -1, -1, -1, -1);
        }
        x.ray(0, 0, 0, -1, 0, 0);
        due(x, 0, -1, -1, -1, -1);
        x.kind(0, 0, 0);
        x.ray(15, 0, 0, -1, 0, 0);
        due(x, 0, -1, -1, -1, -1);
        x.kind(0, 1, 1000);
        x.off(1, true);
        x.box(-20, -50, -50, -10, 50, 50);
        x.kind(2, 1, 1000);
        x.ray(0, 0, 0, 1, 0, 0);
        due(x, 29, 2, 0, 590, 1);
        due(x, 30, -1, -1, -1, -1);
    }

    private static void whatsBounds() {
        Check.sentence("Illegal argument (hit)");
        LightRays x = twoMirrors();
        x.ray(0, 0, 0, 6, 0, 4);
        for (int what : new int[] {-1, 4, Integer.MIN_VALUE, Integer.MAX_VALUE}) {
            Check.illegalArgument("what " + what, () -> x.hit(0, what));
            Check.illegalArgument("what " + what + " of none such", () -> x.hit(7, what));
        }
    }

    private static void kBelowZero() {
        Check.sentence("Illegal argument: also if k is below 0");
        LightRays x = twoMirrors();
        x.ray(0, 0, 0, 6, 0, 4);
        for (int k : new int[] {-1, -2, -30, Integer.MIN_VALUE}) {
            for (int what = 0; what < 4; what++) {
                int w = what;
                Check.illegalArgument("k " + k, () -> x.hit(k, w));
            }
        }
        due(x, 0, 0, 0, 5, 3);
    }

    private static void thereWasNoRay() {
        Check.sentence("illegal state: there was no ray");
        LightRays x = twoMirrors();
        x.fan(1, 0, 0);
        x.measure(0, 0, 0);
        for (int what = 0; what < 4; what++) {
            int w = what;
            Check.illegalState("hit 0, " + what, () -> x.hit(0, w));
            Check.illegalState("hit 99, " + what, () -> x.hit(99, w));
        }
    }

    private static void argumentBeforeState() {
        Check.sentence("Of several exceptions the one named first is thrown (hit)");
        LightRays x = twoMirrors();
        Check.illegalArgument("k -1 without a ray", () -> x.hit(-1, 0));
        Check.illegalArgument("what -1 without a ray", () -> x.hit(0, -1));
        Check.illegalArgument("what 4 without a ray", () -> x.hit(0, 4));
        Check.illegalArgument("what 4 of none such without a ray", () -> x.hit(99, 4));
    }
}
