/** Promise 1: A new object. */
public final class Promise01NewObjectTest {
    public static void main(String[] args) {
        noBoxes();
        noFan();
        noRay();
        sizeAsTold();
        belowOne();
        aboveThousand();
        objectsAreApart();
        Check.end();
    }

    private static void noBoxes() {
        Check.sentence("No boxes");
        LightRays x = new LightRays(10);
        for (int box = 0; box < 20; box++) {
            int b = box;
            Check.illegalArgument("kind of box " + b, () -> x.kind(b, 0, 0));
            Check.illegalArgument("off of box " + b, () -> x.off(b, true) ? 1 : 0);
        }
        Check.due("nothing is met", 0, () -> x.ray(0, 0, 0, 1, 1, 1));
        Check.due("the first box", 0, () -> x.box(0, 0, 0, 1, 1, 1));
    }

    private static void noFan() {
        Check.sentence("no fan");
        LightRays x = new LightRays(10);
        Check.due("the first noFan", 0, () -> x.noFan());
        LightRays y = new LightRays(10);
        for (int octant = 0; octant < 8; octant++) {
            y.sky(octant, 1000);
        }
        Check.due("measure", 0, () -> y.measure(0, 0, 0));
        Check.due("the first direction", 1, () -> y.fan(1, 0, 0));
    }

    private static void noRay() {
        Check.sentence("no ray");
        LightRays x = new LightRays(10);
        Check.illegalState("told", () -> x.told(0));
        Check.illegalState("hit", () -> x.hit(0, 0));
        Check.illegalArgument("place", () -> x.place(0, 0, 0));
    }

    private static void sizeAsTold() {
        Check.sentence("SIZE is what is told");
        for (int size : new int[] {1, 2, 10, 999, 1000}) {
            reachesTo(size, size);
        }
    }

    private static void belowOne() {
        Check.sentence("below 1 counts as 1");
        for (int size : new int[] {0, -1, -7, -1000, Integer.MIN_VALUE}) {
            reachesTo(size, 1);
        }
    }

    private static void aboveThousand() {
        Check.sentence("above 1000 as 1000");
        for (int size : new int[] {1001, 1002, 65536, Integer.MAX_VALUE}) {
            reachesTo(size, 1000);
        }
    }

    private static void reachesTo(int told, int size) {
        LightRays x = new LightRays(told);
        String name = "size " + told + ": ";
        Check.due(name + "box", 0, () -> x.box(-size, -size, -size, size, size, size));
        Check.illegalArgument(name + "box beyond", () -> x.box(-size, -size, -size, size + 1, size, size));
        Check.illegalArgument(name + "box beyond below", () -> x.box(-size, -size - 1, -size, size, size, size));
        Check.due(name + "ray", 0, () -> x.ray(size, size, size, 1, 1, 1));
        Check.due(name + "ray below", 0, () -> x.ray(-size, -size, -size, -1, -1, -1));
        Check.illegalArgument(name + "ray beyond", () -> x.ray(0, 0, size + 1, 1, 1, 1));
        Check.illegalArgument(name + "ray beyond below", () -> x.ray(0, 0, -size - 1, 1, 1, 1));
        Check.due(name + "measure", 0, () -> x.measure(-size, -size, -size));
        Check.illegalArgument(name + "measure beyond", () -> x.measure(-size - 1, 0, 0));
        Check.due(name + "best", 0, () -> x.best(size - 1, size - 1, size, 2, 2, 1, 0));
        Check.illegalArgument(name + "best beyond", () -> x.best(size, size, size, 2, 1, 1, 0));
    }

    private static void objectsAreApart() {
        Check.sentence("A new object");
        LightRays one = new LightRays(5);
        LightRays other = new LightRays(6);
        one.box(0, 0, 0, 1, 1, 1);
        one.fan(1, 1, 1);
        one.sky(3, 4);
        one.ray(-1, 0, 0, 1, 0, 0);
        Check.due("box of the other", 0, () -> other.box(0, 0, 0, 1, 1, 6));
        Check.due("fan of the other", 0, () -> other.noFan());
        Check.due("sky of the other", 0, () -> other.sky(3, 4));
        Check.illegalState("ray of the other", () -> other.told(0));
        Check.illegalArgument("size of the one", () -> one.ray(0, 0, 6, 1, 1, 1));
        Check.due("fan of the one", 1, () -> one.noFan());
    }
}
