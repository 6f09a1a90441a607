/** Promise 5: ray. How it goes on its way is asked in TermsRayTest. */
public final class Promise05RayTest {
    public static void main(String[] args) {
        howItEnds();
        pointsBounds();
        directionsBounds();
        notAllZero();
        refusedLeavesTheLatest();
        Check.end();
    }

    private static void howItEnds() {
        Check.sentence("A RAY: how it ENDS");
        LightRays x = new LightRays(9);
        x.box(1, -9, -9, 2, 9, 9);
        Check.due("SOLID", 1, () -> x.ray(0, 0, 0, 1, 0, 0));
        Check.due("SKY", 0, () -> x.ray(0, 0, 0, -1, 0, 0));
        x.kind(0, 2, 0);
        Check.due("LOST", 2, () -> x.ray(0, 0, 0, 1, 0, 0));
        Check.due("the same once more", 2, () -> x.ray(0, 0, 0, 1, 0, 0));
    }

    private static void pointsBounds() {
        Check.sentence("a POINT (numbers from -SIZE to SIZE). Illegal argument");
        LightRays x = new LightRays(7);
        Check.due("greatest", 0, () -> x.ray(7, 7, 7, 1, 1, 1));
        Check.due("least", 0, () -> x.ray(-7, -7, -7, 1, 1, 1));
        for (int axis = 0; axis < 3; axis++) {
            for (int number : new int[] {-8, 8, Integer.MIN_VALUE, Integer.MAX_VALUE}) {
                int[] p = {0, 0, 0};
                p[axis] = number;
                Check.illegalArgument("axis " + axis + " is " + number, () -> x.ray(p[0], p[1], p[2], 1, 1, 1));
            }
        }
    }

    private static void directionsBounds() {
        Check.sentence("a DIRECTION (numbers from -100 to 100). Illegal argument");
        LightRays x = new LightRays(200);
        Check.due("greatest", 0, () -> x.ray(0, 0, 0, 100, 100, 100));
        Check.due("it is told", 100, () -> x.told(4));
        Check.due("least", 0, () -> x.ray(0, 0, 0, -100, -100, -100));
        Check.due("it is told, too", -100, () -> x.told(2));
        for (int axis = 0; axis < 3; axis++) {
            for (int number : new int[] {-101, 101, 200, Integer.MIN_VALUE, Integer.MAX_VALUE}) {
                int[] d = {1, 1, 1};
                d[axis] = number;
                Check.illegalArgument("axis " + axis + " is " + number, () -> x.ray(0, 0, 0, d[0], d[1], d[2]));
            }
        }
    }

    private static void notAllZero() {
        Check.sentence("not all 0. Illegal argument");
        LightRays x = new LightRays(7);
        Check.illegalArgument("all 0", () -> x.ray(0, 0, 0, 0, 0, 0));
        Check.illegalArgument("all 0 from elsewhere", () -> x.ray(1, 2, 3, 0, 0, 0));
        for (int axis = 0; axis < 3; axis++) {
            for (int number : new int[] {-1, 1}) {
                int[] d = {0, 0, 0};
                d[axis] = number;
                Check.due("axis " + axis + " is " + number, 0, () -> x.ray(0, 0, 0, d[0], d[1], d[2]));
            }
        }
    }

    private static void refusedLeavesTheLatest() {
        Check.sentence("a call that throws changes nothing (ray)");
        LightRays x = new LightRays(7);
        x.box(1, -1, -1, 2, 1, 1);
        Check.illegalArgument("refused before any", () -> x.ray(8, 0, 0, 1, 0, 0));
        Check.illegalState("there is no ray yet", () -> x.told(0));
        Check.illegalArgument("nor places of one", () -> x.place(0, 0, 0));
        x.ray(0, 0, 0, 3, 0, 0);
        Check.illegalArgument("refused by its point", () -> x.ray(0, 8, 0, 1, 0, 0));
        Check.illegalArgument("refused by its direction", () -> x.ray(1, 1, 1, 0, 0, 101));
        Check.illegalArgument("refused by no direction", () -> x.ray(1, 1, 1, 0, 0, 0));
        Check.due("the latest ray's hits", 1, () -> x.told(0));
        Check.due("its direction", 3, () -> x.told(2));
        Check.due("its hit's time", 3, () -> x.hit(0, 3));
        Check.due("its hit's place", 1, () -> x.place(0, 0, 0));
    }
}
