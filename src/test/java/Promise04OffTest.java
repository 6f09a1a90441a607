/** Promise 4: off. */
public final class Promise04OffTest {
    public static void main(String[] args) {
        LightRays x = new LightRays(50);
        x.box(10, -50, -50, 20, 50, 50);
        x.box(-5, -5, -5, 5, 5, 5);
        Check.due("not OFF at first", false, x.off(1, true));
        Check.due("OFF", true, x.off(1, true));
        Check.due("on again", true, x.off(1, false));
        Check.due("not OFF", false, x.off(1, false));
        Check.due("begins in a SOLID box", 1, () -> x.ray(0, 0, 0, 1, 0, 0));
        Check.due("no hit", 0, () -> x.told(0));
        x.off(1, true);
        Check.due("an OFF box holds nothing", 1, () -> x.ray(0, 0, 0, 1, 0, 0));
        Check.due("the other box is hit", 0, () -> x.hit(0, 0));
        Check.due("the other box is not OFF", false, x.off(0, true));
        Check.due("OFF boxes stop nothing", 0, () -> x.ray(0, 0, 0, 1, 0, 0));
        Check.due("an OFF box keeps its place", 2, () -> x.box(0, 0, 0, 1, 1, 1));
        Check.due("an OFF box has a kind", 0, () -> x.kind(0, 2, 700));
        x.off(0, false);
        x.ray(6, 0, 0, 1, 0, 0);
        Check.due("the kind given while OFF", 700000, () -> x.told(1));
        wrongBoxes(x);
        Check.end();
    }

    private static void wrongBoxes(LightRays x) {
        for (int box : new int[] {-1, 3, 19, 20, Integer.MIN_VALUE, Integer.MAX_VALUE}) {
            Check.illegalArgument("off of box " + box, () -> x.off(box, true) ? 1 : 0);
            Check.illegalArgument("on of box " + box, () -> x.off(box, false) ? 1 : 0);
        }
    }
}
