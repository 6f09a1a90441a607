/** Promise 12: measure, and what the terms say of it. */
public final class Promise12MeasureTest {
    public static void main(String[] args) {
        theSum();
        octantAtTheEnd();
        onlySky();
        emptyFan();
        theGreatest();
        pointsBounds();
        noRayComes();
        Check.end();
    }

    private static LightRays bright(int size) {
        LightRays x = new LightRays(size);
        for (int octant = 0; octant < 8; octant++) {
            x.sky(octant, 1000);
        }
        return x;
    }

    private static void theSum() {
        Check.sentence("the sum over the fan's directions of LIGHT times brightness");
        LightRays x = new LightRays(50);
        x.box(-50, 10, -50, 50, 11, 50);
        x.kind(0, 2, 300);
        x.sky(0, 2);
        x.sky(1, 30);
        x.fan(1, 0, 0);
        Check.due("one direction", 1000000L * 2, () -> x.measure(0, 0, 0));
        x.fan(0, 1, 0);
        Check.due("and through glass", 1000000L * 2 + 300000L * 2, () -> x.measure(0, 0, 0));
        x.fan(1, 1, -1);
        Check.due("and another octant", 1000000L * 2 + 300000L * 2 + 300000L * 30, () -> x.measure(0, 0, 0));
        Check.due("from above the glass", 1000000L * 4 + 1000000L * 30, () -> x.measure(0, 11, 0));
        Check.due("asked again", 1000000L * 2 + 300000L * 2 + 300000L * 30, () -> x.measure(0, 0, 0));
    }

    private static void octantAtTheEnd() {
        Check.sentence("of the octant of the direction that they have then");
        LightRays x = new LightRays(50);
        x.box(10, -50, -50, 11, 50, 50);
        x.kind(0, 1, 600);
        x.sky(0, 2);
        x.sky(4, 500);
        x.fan(1, 0, 0);
        Check.due("mirrored", 600000L * 500, () -> x.measure(0, 0, 0));
        Check.due("mirrored from the other side", 1000000L * 2, () -> x.measure(11, 0, 0));
        x.noFan();
        x.fan(-1, 0, 0);
        Check.due("mirrored into x above 0", 600000L * 2, () -> x.measure(11, 0, 0));
    }

    private static void onlySky() {
        Check.sentence("for rays that end in the SKY");
        LightRays x = bright(9);
        x.box(1, -9, -9, 2, 9, 9);
        x.box(-2, -9, -9, -1, 9, 9);
        x.fan(1, 0, 0);
        Check.due("SOLID", 0, () -> x.measure(0, 0, 0));
        x.kind(0, 1, 1000);
        x.kind(1, 1, 1000);
        Check.due("LOST behind 30 hits", 0, () -> x.measure(0, 0, 0));
        x.fan(0, 1, 0);
        Check.due("LOST and SKY", 1000000000L, () -> x.measure(0, 0, 0));
        x.kind(0, 2, 0);
        Check.due("LOST without light, and SKY", 1000000000L, () -> x.measure(0, 0, 0));
        x.box(-9, -9, -9, 9, 9, 9);
        Check.due("inside SOLID", 0, () -> x.measure(0, 0, 0));
        x.off(2, true);
        Check.due("inside SOLID that is OFF", 1000000000L, () -> x.measure(0, 0, 0));
    }

    private static void emptyFan() {
        Check.sentence("the sum over the fan's directions (an empty fan)");
        LightRays x = bright(9);
        Check.due("no directions", 0, () -> x.measure(0, 0, 0));
        x.fan(1, 0, 0);
        x.noFan();
        Check.due("none any more", 0, () -> x.measure(9, 9, 9));
    }

    private static void theGreatest() {
        Check.sentence("The MEASURE of a point (more than an int holds)");
        LightRays x = bright(1000);
        for (int i = 0; i < 40; i++) {
            x.fan(100 - i, -i, i);
            long want = (i + 1) * 1000000000L;
            Check.due("fan of " + (i + 1), want, () -> x.measure(1000, -1000, 1000));
        }
    }

    private static void pointsBounds() {
        Check.sentence("Illegal argument (measure)");
        LightRays x = bright(50);
        x.fan(1, 0, 0);
        for (int axis = 0; axis < 3; axis++) {
            for (int number : new int[] {-51, 51, Integer.MIN_VALUE, Integer.MAX_VALUE}) {
                int[] p = {0, 0, 0};
                p[axis] = number;
                Check.illegalArgument("axis " + axis + " is " + number, () -> x.measure(p[0], p[1], p[2]));
            }
            for (int number : new int[] {-50, 50}) {
                int[] p = {0, 0, 0};
                p[axis] = number;
                Check.due("axis " + axis + " is " + number, 1000000000L, () -> x.measure(p[0], p[1], p[2]));
            }
        }
        x.noFan();
        Check.illegalArgument("with an empty fan too", () -> x.measure(51, 0, 0));
    }

    private static void noRayComes() {
        Check.sentence("Of the latest ray() (a measure is none)");
        LightRays x = bright(5);
        x.fan(1, 0, 0);
        x.measure(0, 0, 0);
        Check.illegalState("told", () -> x.told(0));
        Check.illegalState("hit", () -> x.hit(0, 0));
        Check.illegalArgument("place", () -> x.place(0, 0, 0));
    }
}
