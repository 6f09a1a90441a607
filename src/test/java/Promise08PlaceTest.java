/** Promise 8: place. */
public final class Promise08PlaceTest {
    public static void main(String[] args) {
        whereItWas();
        lowestTerms();
        axisBounds();
        partBounds();
        noSuchHit();
        wasNoRay();
        Check.end();
    }

    private static LightRays twoMirrors() {
        LightRays x = new LightRays(50);
        x.box(10, -50, -50, 20, 50, 50);
        x.box(-20, -50, -50, -10, 50, 50);
        x.kind(0, 1, 1000);
        x.kind(1, 1, 1000);
        return x;
    }

    private static void due(LightRays x, int k, int... wants) {
        for (int i = 0; i < wants.length; i++) {
            int axis = i / 2;
            int part = i % 2;
            Check.due("place " + k + ", " + axis + ", " + part, wants[i], () -> x.place(k, axis, part));
        }
    }

    private static void whereItWas() {
        Check.sentence("Where the latest ray() was at its k-th hit, on an axis");
        LightRays x = twoMirrors();
        x.ray(0, 1, -2, 12, 2, -3);
        due(x, 0, 10, 1, 8, 3, -9, 2);
        due(x, 1, -10, 1, 6, 1, -19, 2);
        x.off(1, true);
        x.fan(1, 0, 0);
        x.measure(0, 0, 0);
        x.best(0, 0, 0, 1, 1, 1, 0);
        due(x, 1, -10, 1, 6, 1, -19, 2);
        x.ray(10, -49, 49, 1, 0, 0);
        due(x, 0, 10, 1, -49, 1, 49, 1);
        x.ray(0, 50, 50, 1, 100, -100);
        Check.due("above the mirror's edge there is no hit", 0, () -> x.told(0));
        x.ray(0, 0, 0, 100, 100, 100);
        due(x, 0, 10, 1, 10, 1, 10, 1);
    }

    private static void lowestTerms() {
        Check.sentence("in lowest terms: above (part 0), below (1)");
        LightRays x = twoMirrors();
        x.ray(0, -5, 5, 2, 1, -1);
        due(x, 0, 10, 1, 0, 1, 0, 1);
        x.ray(4, 1, 2, 4, -2, 6);
        due(x, 0, 10, 1, -2, 1, 11, 1);
        x.ray(1, 0, 0, 6, 1, -2);
        due(x, 0, 10, 1, 3, 2, -3, 1);
        x.ray(-9, 0, 0, 97, -1, 100);
        due(x, 0, 10, 1, -19, 97, 1900, 97);
    }

    private static void axisBounds() {
        Check.sentence("Illegal argument (place, its axis)");
        LightRays x = twoMirrors();
        x.ray(0, 1, -2, 12, 2, -3);
        for (int axis : new int[] {-1, 3, 4, Integer.MIN_VALUE, Integer.MAX_VALUE}) {
            Check.illegalArgument("axis " + axis, () -> x.place(0, axis, 0));
            Check.illegalArgument("axis " + axis + " of hit 1", () -> x.place(1, axis, 1));
        }
    }

    private static void partBounds() {
        Check.sentence("Illegal argument (place, its part)");
        LightRays x = twoMirrors();
        x.ray(0, 1, -2, 12, 2, -3);
        for (int part : new int[] {-1, 2, 3, Integer.MIN_VALUE, Integer.MAX_VALUE}) {
            Check.illegalArgument("part " + part, () -> x.place(0, 0, part));
        }
        due(x, 0, 10, 1, 8, 3, -9, 2);
    }

    private static void noSuchHit() {
        Check.sentence("Illegal argument: also if there is no such hit");
        LightRays x = twoMirrors();
        x.ray(0, -5, 5, 12, 2, -3);
        int hits = x.told(0);
        Check.due("the last hit has a place", 1, () -> x.place(hits - 1, 0, 1));
        // The last two times 3 wrap round to numbers of places that there are.
        for (int k : new int[] {hits, hits + 1, 29, 30, -1, Integer.MIN_VALUE, Integer.MAX_VALUE, 1431655766, 715827883}) {
            Check.illegalArgument("k " + k, () -> x.place(k, 0, 0));
            Check.illegalArgument("k " + k + ", below", () -> x.place(k, 2, 1));
        }
        x.off(1, true);
        x.ray(0, -5, 5, 2, 1, -1);
        Check.illegalArgument("an earlier ray's hit", () -> x.place(1, 0, 0));
        x.ray(0, 0, 0, -1, 0, 0);
        Check.illegalArgument("no hit at all", () -> x.place(0, 0, 0));
        x.kind(0, 0, 0);
        x.ray(15, 0, 0, 1, 0, 0);
        Check.illegalArgument("no hit inside SOLID", () -> x.place(0, 0, 0));
        x.kind(0, 1, 1000);
        x.off(1, false);
        x.ray(0, 0, 0, 1, 0, 0);
        due(x, 29, -10, 1, 0, 1, 0, 1);
        Check.illegalArgument("behind the 30th", () -> x.place(30, 0, 0));
    }

    private static void wasNoRay() {
        Check.sentence("Illegal argument: also if there was no ray");
        LightRays x = twoMirrors();
        x.fan(1, 0, 0);
        x.measure(0, 0, 0);
        for (int i = 0; i < 6; i++) {
            int axis = i / 2;
            int part = i % 2;
            Check.illegalArgument("place before a ray", () -> x.place(0, axis, part));
        }
        Check.illegalArgument("a wrong place before a ray", () -> x.place(-1, 3, 2));
    }
}
