/** Promise 4: off, and what the terms say of an OFF box. */
public final class Promise04OffTest {
    public static void main(String[] args) {
        whetherItWas();
        solidOffHoldsNothing();
        offBoxesAreNotMet();
        onAgain();
        noSuchBox();
        Check.end();
    }

    private static void whetherItWas() {
        Check.sentence("Whether a box is OFF: whether it was");
        LightRays x = new LightRays(50);
        x.box(10, -50, -50, 20, 50, 50);
        x.box(-5, -5, -5, 5, 5, 5);
        Check.due("not OFF at first", false, x.off(1, false));
        Check.due("still not", false, x.off(1, true));
        Check.due("OFF", true, x.off(1, true));
        Check.due("still OFF", true, x.off(1, false));
        Check.due("on again", false, x.off(1, false));
        x.off(1, true);
        Check.due("the other box is not OFF", false, x.off(0, false));
        x.kind(1, 2, 5);
        Check.due("a KIND does not turn it on", true, x.off(1, true));
    }

    private static void solidOffHoldsNothing() {
        Check.sentence("a box may be OFF (it counts for nothing then): a point in it");
        LightRays x = new LightRays(50);
        x.box(-5, -5, -5, 5, 5, 5);
        Check.due("inside a SOLID box", 1, () -> x.ray(0, 0, 0, 1, 0, 0));
        x.off(0, true);
        Check.due("inside an OFF one", 0, () -> x.ray(0, 0, 0, 1, 0, 0));
        x.sky(0, 3);
        x.fan(1, 0, 0);
        Check.due("measure inside an OFF one", 3000000, () -> x.measure(0, 0, 0));
    }

    private static void offBoxesAreNotMet() {
        Check.sentence("a box may be OFF (it counts for nothing then): on a ray's way");
        for (int kind = 0; kind < 3; kind++) {
            LightRays x = new LightRays(50);
            x.box(10, -50, -50, 20, 50, 50);
            x.box(10, -50, -50, 20, 50, 50);
            x.kind(0, kind, 100);
            x.kind(1, 2, 500);
            x.off(0, true);
            Check.due("kind " + kind + ", the next number is met", 0, () -> x.ray(0, 0, 0, 1, 0, 0));
            Check.due("one hit", 1, () -> x.told(0));
            Check.due("of the other box", 1, () -> x.hit(0, 0));
            Check.due("its light", 500000, () -> x.told(1));
            Check.due("not turned", 1, () -> x.told(2));
            x.off(1, true);
            Check.due("nothing is met", 0, () -> x.ray(0, 0, 0, 1, 0, 0));
            Check.due("no hit", 0, () -> x.told(0));
        }
    }

    private static void onAgain() {
        Check.sentence("a box may be OFF: it keeps what it is");
        LightRays x = new LightRays(50);
        x.box(10, -50, -50, 20, 50, 50);
        x.kind(0, 2, 700);
        x.off(0, true);
        Check.due("it keeps its number", 1, () -> x.box(0, 0, 0, 1, 1, 1));
        x.off(0, false);
        x.ray(6, 0, 0, 1, 0, 0);
        Check.due("the kind from before", 700000, () -> x.told(1));
        x.off(0, true);
        x.kind(0, 2, 600);
        x.off(0, false);
        x.ray(6, 0, 0, 1, 0, 0);
        Check.due("the kind given while OFF", 600000, () -> x.told(1));
    }

    private static void noSuchBox() {
        Check.sentence("there is no such box (off)");
        LightRays x = new LightRays(50);
        Check.illegalArgument("box 0 of none", () -> x.off(0, true) ? 1 : 0);
        x.box(10, -50, -50, 20, 50, 50);
        x.box(-5, -5, -5, 5, 5, 5);
        for (int box : new int[] {-1, 2, 19, 20, Integer.MIN_VALUE, Integer.MAX_VALUE}) {
            Check.illegalArgument("off of box " + box, () -> x.off(box, true) ? 1 : 0);
            Check.illegalArgument("on of box " + box, () -> x.off(box, false) ? 1 : 0);
        }
        Check.due("the first box is on", false, x.off(0, true));
        Check.due("the last box is on", false, x.off(1, true));
    }
}
