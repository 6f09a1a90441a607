/** Promise 6: told. */
public final class Promise06ToldTest {
    public static void main(String[] args) {
        ofTheLatestRay();
        howManyHits();
        itsLight();
        itsDirection();
        whatsBounds();
        thereWasNone();
        argumentBeforeState();
        Check.end();
    }

    private static LightRays twoMirrors() {
        LightRays x = new LightRays(50);
        x.box(10, -50, -50, 20, 50, 50);
        x.box(-50, -50, 10, 50, 50, 20);
        x.kind(0, 1, 900);
        x.kind(1, 1, 333);
        return x;
    }

    private static void due(LightRays x, String name, int... wants) {
        for (int what = 0; what < wants.length; what++) {
            int w = what;
            Check.due(name + ": told " + what, wants[what], () -> x.told(w));
        }
    }

    private static void ofTheLatestRay() {
        Check.sentence("Of the latest ray()");
        LightRays x = twoMirrors();
        x.ray(0, 1, 2, 3, -4, 1);
        due(x, "both mirrors", 2, 299700, -3, -4, -1);
        x.ray(0, 0, 0, -5, 6, -7);
        due(x, "the next ray", 0, 1000000, -5, 6, -7);
        x.kind(1, 2, 1);
        x.ray(0, 0, 0, 0, 100, 100);
        due(x, "GLASS", 1, 1000, 0, 100, 100);
        due(x, "told once more", 1, 1000, 0, 100, 100);
        x.fan(1, 0, 0);
        x.measure(0, 0, 0);
        x.best(0, 0, 0, 2, 2, 1, 0);
        due(x, "measure and best are no ray()", 1, 1000, 0, 100, 100);
        x.off(1, true);
        x.kind(1, 0, 0);
        due(x, "boxes that change later change nothing of it", 1, 1000, 0, 100, 100);
    }

    private static void howManyHits() {
        Check.sentence("what = 0 how many hits");
        LightRays x = twoMirrors();
        x.ray(0, 0, 0, -1, 0, 0);
        Check.due("none", 0, () -> x.told(0));
        x.ray(0, 0, 0, 1, 0, 0);
        Check.due("one", 1, () -> x.told(0));
        x.kind(0, 0, 1000);
        x.ray(0, 0, 0, 1, 0, 0);
        Check.due("one of SOLID", 1, () -> x.told(0));
        x.ray(15, 0, 0, 1, 0, 0);
        Check.due("none, inside SOLID", 0, () -> x.told(0));
        x.kind(0, 1, 1000);
        x.box(-20, -50, -50, -10, 50, 50);
        x.kind(2, 1, 1000);
        x.ray(0, 0, 0, 1, 0, 0);
        Check.due("thirty", 30, () -> x.told(0));
    }

    private static void itsLight() {
        Check.sentence("1 its LIGHT at its end");
        LightRays x = twoMirrors();
        x.ray(0, 0, 0, -1, 0, 0);
        Check.due("all", 1000000, () -> x.told(1));
        x.ray(0, 0, 0, 1, 0, 0);
        Check.due("900 of 1000", 900000, () -> x.told(1));
        x.kind(0, 1, 0);
        x.ray(0, 0, 0, 1, 0, 0);
        Check.due("none", 0, () -> x.told(1));
    }

    private static void itsDirection() {
        Check.sentence("2, 3, 4 its direction's x, y, z then");
        LightRays x = twoMirrors();
        x.ray(0, 0, 0, 7, 0, 0);
        due(x, "turned on x", 1, 900000, -7, 0, 0);
        x.ray(0, 0, 0, 0, -7, 9);
        due(x, "turned on z", 1, 333000, 0, -7, -9);
        x.kind(0, 0, 0);
        x.ray(0, 0, 0, 2, 1, -1);
        due(x, "not turned by SOLID", 1, 1000000, 2, 1, -1);
        x.ray(15, 0, 0, 2, 1, -1);
        due(x, "inside SOLID", 0, 1000000, 2, 1, -1);
        x.box(-50, 10, -50, 50, 20, 50);
        x.kind(2, 1, 1);
        x.ray(0, 0, 0, 0, 3, 0);
        due(x, "turned on y", 1, 1000, 0, -3, 0);
    }

    private static void whatsBounds() {
        Check.sentence("Illegal argument (told)");
        LightRays x = twoMirrors();
        x.ray(0, 1, 2, 3, -4, 1);
        for (int what : new int[] {-2, -1, 5, 6, Integer.MIN_VALUE, Integer.MAX_VALUE}) {
            Check.illegalArgument("told " + what, () -> x.told(what));
        }
        due(x, "changes nothing", 2, 299700, -3, -4, -1);
    }

    private static void thereWasNone() {
        Check.sentence("illegal state: there was none");
        LightRays x = twoMirrors();
        x.fan(1, 0, 0);
        x.measure(0, 0, 0);
        x.best(0, 0, 0, 1, 1, 1, 0);
        for (int what = 0; what < 5; what++) {
            int w = what;
            Check.illegalState("told " + what, () -> x.told(w));
        }
    }

    private static void argumentBeforeState() {
        Check.sentence("Of several exceptions the one named first is thrown (told)");
        LightRays x = twoMirrors();
        for (int what : new int[] {-1, 5, Integer.MIN_VALUE, Integer.MAX_VALUE}) {
            Check.illegalArgument("told " + what + " without a ray", () -> x.told(what));
        }
    }
}
