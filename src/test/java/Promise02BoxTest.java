/** Promise 2: box, and what the terms say of a box's corners. */
public final class Promise02BoxTest {
    public static void main(String[] args) {
        itsNumber();
        cornersWithinSize();
        cornersBeyondSize();
        firstCornerBelow();
        illegalStateAtTwenty();
        argumentBeforeState();
        solidAtFirst();
        Check.end();
    }

    private static void itsNumber() {
        Check.sentence("A box: its number. BOXES are 0 .. 19, as they come");
        LightRays x = new LightRays(20);
        for (int i = 0; i < 20; i++) {
            int n = i;
            Check.illegalArgument("no box " + n + " yet", () -> x.off(n, false) ? 1 : 0);
            Check.illegalArgument("a refused box takes no number", () -> x.box(n, 0, 0, n, 1, 1));
            Check.due("box " + n, n, () -> x.box(n - 10, 0, 0, n - 9, 1, 1));
            Check.due("box " + n + " is there", 0, () -> x.kind(n, 2, 1000));
            Check.due("an OFF box keeps its number", false, x.off(n, n % 3 == 0));
        }
        Check.due("a ray along all", 0, () -> x.ray(20, 0, 0, -20, 1, 1));
        Check.due("the last box is met first", 19, () -> x.hit(0, 0));
    }

    private static void cornersWithinSize() {
        Check.sentence("whole numbers from -SIZE to SIZE");
        LightRays x = new LightRays(9);
        Check.due("the greatest box", 0, () -> x.box(-9, -9, -9, 9, 9, 9));
        Check.due("in the least corner", 1, () -> x.box(-9, -9, -9, -8, -8, -8));
        Check.due("in the greatest corner", 2, () -> x.box(8, 8, 8, 9, 9, 9));
    }

    private static void cornersBeyondSize() {
        Check.sentence("Illegal argument (a corner's number beyond SIZE)");
        LightRays x = new LightRays(9);
        int[] wrong = {-11, -10, 10, 11, Integer.MIN_VALUE, Integer.MAX_VALUE};
        for (int i = 0; i < 6; i++) {
            for (int number : wrong) {
                int[] c = {-9, -9, -9, 9, 9, 9};
                c[i] = number;
                Check.illegalArgument("corner " + i + " is " + number, () -> x.box(c[0], c[1], c[2], c[3], c[4], c[5]));
            }
        }
        Check.due("none of them came", 0, () -> x.box(-9, -9, -9, 9, 9, 9));
    }

    private static void firstCornerBelow() {
        Check.sentence("x0 below x1, and so on");
        LightRays x = new LightRays(9);
        for (int axis = 0; axis < 3; axis++) {
            for (int low : new int[] {3, 4, 9}) {
                int[] c = {0, 0, 0, 3, 3, 3};
                c[axis] = low;
                Check.illegalArgument("axis " + axis + " from " + low + " to 3",
                        () -> x.box(c[0], c[1], c[2], c[3], c[4], c[5]));
            }
        }
        for (int axis = 0; axis < 3; axis++) {
            int box = axis;
            int[] c = {0, 0, 0, 3, 3, 3};
            c[axis] = 2;
            Check.due("axis " + axis + " from 2 to 3", box, () -> x.box(c[0], c[1], c[2], c[3], c[4], c[5]));
        }
    }

    private static LightRays full() {
        LightRays x = new LightRays(20);
        for (int i = 0; i < 20; i++) {
            x.box(i - 10, 0, 0, i - 9, 1, 1);
        }
        return x;
    }

    private static void illegalStateAtTwenty() {
        Check.sentence("illegal state: there are 20");
        LightRays x = full();
        Check.illegalState("the 21st box", () -> x.box(0, 0, 0, 1, 1, 1));
        Check.illegalState("and again", () -> x.box(-20, -20, -20, 20, 20, 20));
        x.off(3, true);
        Check.illegalState("an OFF box makes no room", () -> x.box(0, 0, 0, 1, 1, 1));
        Check.due("the 20th is there", 0, () -> x.kind(19, 1, 5));
        Check.illegalArgument("no 21st came", () -> x.kind(20, 1, 5));
    }

    private static void argumentBeforeState() {
        Check.sentence("Of several exceptions the one named first is thrown (box)");
        LightRays x = full();
        Check.illegalArgument("a flat 21st box", () -> x.box(0, 0, 0, 0, 1, 1));
        Check.illegalArgument("a turned 21st box", () -> x.box(0, 0, 2, 1, 1, 1));
        Check.illegalArgument("a 21st box beyond SIZE", () -> x.box(0, 0, 0, 21, 1, 1));
        Check.illegalArgument("a 21st box beyond -SIZE", () -> x.box(0, -21, 0, 1, 1, 1));
    }

    private static void solidAtFirst() {
        Check.sentence("a KIND: 0 SOLID (at first)");
        LightRays x = new LightRays(9);
        x.box(1, -1, -1, 2, 1, 1);
        Check.due("a ray ends at it", 1, () -> x.ray(0, 0, 0, 1, 0, 0));
        Check.due("it is not OFF", false, x.off(0, false));
        Check.due("the KIND that it had", 0, () -> x.kind(0, 2, 1000));
    }
}
