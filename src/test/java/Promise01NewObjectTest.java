/** Promise 1: a new object has no boxes, no fan, no ray, a dark sky, and a SIZE from 1 to 1000. */
public final class Promise01NewObjectTest {
    public static void main(String[] args) {
        emptyAtFirst();
        sizeReachesTo(Integer.MIN_VALUE, 1);
        sizeReachesTo(-7, 1);
        sizeReachesTo(0, 1);
        sizeReachesTo(1, 1);
        sizeReachesTo(2, 2);
        sizeReachesTo(999, 999);
        sizeReachesTo(1000, 1000);
        sizeReachesTo(1001, 1000);
        sizeReachesTo(Integer.MAX_VALUE, 1000);
        objectsAreApart();
        Check.end();
    }

    private static void emptyAtFirst() {
        LightRays x = new LightRays(10);
        Check.illegalArgument("kind of no box", () -> x.kind(0, 0, 0));
        Check.illegalArgument("off of no box", () -> x.off(0, true) ? 1 : 0);
        Check.illegalState("told without a ray", () -> x.told(0));
        Check.illegalState("hit without a ray", () -> x.hit(0, 0));
        Check.illegalArgument("place without a ray", () -> x.place(0, 0, 0));
        Check.due("noFan at first", 0, () -> x.noFan());
        Check.due("measure at first", 0, () -> x.measure(0, 0, 0));
        for (int octant = 0; octant < 8; octant++) {
            int o = octant;
            Check.due("sky at first " + o, 0, () -> x.sky(o, 0));
        }
        Check.due("first box", 0, () -> x.box(0, 0, 0, 1, 1, 1));
        Check.due("first direction", 1, () -> x.fan(1, 0, 0));
        Check.due("NONE", -1, () -> LightRays.NONE);
    }

    private static void sizeReachesTo(int told, int size) {
        LightRays x = new LightRays(told);
        String name = "size " + told + ": ";
        Check.due(name + "box", 0, () -> x.box(-size, -size, -size, size, size, size));
        Check.illegalArgument(name + "box beyond", () -> x.box(-size, -size, -size, size + 1, size, size));
        Check.illegalArgument(name + "box beyond below", () -> x.box(-size, -size - 1, -size, size, size, size));
        Check.due(name + "ray", 0, () -> x.ray(size, size, size, 1, 1, 1));
        Check.illegalArgument(name + "ray beyond", () -> x.ray(0, 0, size + 1, 1, 1, 1));
        Check.due(name + "measure", 0, () -> x.measure(-size, -size, -size));
        Check.illegalArgument(name + "measure beyond", () -> x.measure(-size - 1, 0, 0));
    }

    private static void objectsAreApart() {
        LightRays one = new LightRays(5);
        LightRays other = new LightRays(5);
        one.box(0, 0, 0, 1, 1, 1);
        one.fan(1, 1, 1);
        one.sky(3, 4);
        one.ray(-1, 0, 0, 1, 0, 0);
        Check.due("box of the other", 0, () -> other.box(0, 0, 0, 1, 1, 1));
        Check.due("fan of the other", 0, () -> other.noFan());
        Check.due("sky of the other", 0, () -> other.sky(3, 4));
        Check.illegalState("ray of the other", () -> other.told(0));
    }
}
