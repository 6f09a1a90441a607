/** Promise 5: ray, and what the document's terms say of it. */
public final class Promise05RayTest {
    public static void main(String[] args) {
        wrongNumbers();
        solidAtOnce();
        facesAreNotInside();
        grazingIsNoEntering();
        leastTimeThenLeastNumber();
        firstAxisOfAnEdge();
        sameTimeOnlyGreaterNumbers();
        lost();
        insideMirrorAndGlass();
        glassAgainstMirror();
        enteringByAMirrorAtItsOwnFace();
        farTimesStayExact();
        Check.end();
    }

    private static void wrongNumbers() {
        LightRays x = new LightRays(7);
        x.box(1, -1, -1, 2, 1, 1);
        x.ray(0, 0, 0, 1, 0, 0);
        int[] good = {0, 0, 0, 0, 0, 1};
        for (int i = 0; i < 6; i++) {
            int bound = i < 3 ? 7 : 100;
            for (int number : new int[] {-bound - 1, bound + 1, Integer.MIN_VALUE, Integer.MAX_VALUE}) {
                int[] r = good.clone();
                r[i] = number;
                Check.illegalArgument("number " + i + " is " + number, () -> x.ray(r[0], r[1], r[2], r[3], r[4], r[5]));
            }
        }
        Check.illegalArgument("no direction", () -> x.ray(0, 0, 0, 0, 0, 0));
        Check.due("a call that throws leaves the latest ray", 1, () -> x.told(0));
        Check.due("and its direction", 1, () -> x.told(2));
        Check.due("greatest numbers", 0, () -> x.ray(7, 7, 7, 100, 100, 100));
        Check.due("least numbers", 0, () -> x.ray(-7, -7, -7, -100, -100, -100));
    }

    private static void solidAtOnce() {
        LightRays x = new LightRays(9);
        x.box(-1, -1, -1, 1, 1, 1);
        Check.due("inside a SOLID box", 1, () -> x.ray(0, 0, 0, 1, 2, 3));
        Check.due("no hit", 0, () -> x.told(0));
        Check.due("all its light", 1000000, () -> x.told(1));
        Check.due("its direction", 3, () -> x.told(4));
        Check.due("no such hit", -1, () -> x.hit(0, 0));
        x.off(0, true);
        Check.due("inside a SOLID box that is OFF", 0, () -> x.ray(0, 0, 0, 1, 2, 3));
    }

    private static void facesAreNotInside() {
        LightRays x = new LightRays(9);
        x.box(-1, -1, -1, 1, 1, 1);
        Check.due("from a face away", 0, () -> x.ray(1, 0, 0, 1, 0, 0));
        Check.due("from a face along it", 0, () -> x.ray(1, 0, 0, 0, 1, 1));
        Check.due("from a face in", 1, () -> x.ray(1, 0, 0, -1, 5, 0));
        Check.due("hit at time 0", 0, () -> x.hit(0, 2));
        Check.due("by one", 1, () -> x.hit(0, 3));
        Check.due("from the low face in", 1, () -> x.ray(0, -1, 0, 0, 2, 0));
        Check.due("on axis y", 1, () -> x.hit(0, 1));
        Check.due("from an edge in", 1, () -> x.ray(0, 1, 1, 0, -1, -1));
        Check.due("first axis of the edge", 1, () -> x.hit(0, 1));
        Check.due("from an edge along a face", 0, () -> x.ray(0, 1, 1, 0, -1, 0));
    }

    private static void grazingIsNoEntering() {
        LightRays x = new LightRays(9);
        x.box(-1, -1, -1, 1, 1, 1);
        Check.due("along a face", 0, () -> x.ray(-5, 1, 0, 1, 0, 0));
        Check.due("along a low face", 0, () -> x.ray(-5, -1, 0, 1, 0, 0));
        Check.due("along an edge", 0, () -> x.ray(-5, 1, 1, 1, 0, 0));
        Check.due("touching an edge", 0, () -> x.ray(-3, -1, 0, 1, 1, 0));
        Check.due("touching a corner", 0, () -> x.ray(-1, 1, 3, 1, 0, -1));
        Check.due("just inside an edge", 1, () -> x.ray(-3, -2, 0, 2, 1, 0));
        Check.due("away from it", 0, () -> x.ray(-3, 0, 0, -1, 0, 0));
    }

    private static void leastTimeThenLeastNumber() {
        LightRays x = new LightRays(50);
        x.box(20, -5, -5, 30, 5, 5);
        x.box(10, -5, -5, 30, 5, 5);
        x.box(10, -9, -9, 12, 9, 9);
        Check.due("the nearest", 1, () -> x.ray(0, 0, 0, 3, 0, 0));
        Check.due("of two the least number", 1, () -> x.hit(0, 0));
        Check.due("time above", 10, () -> x.hit(0, 2));
        Check.due("time below", 3, () -> x.hit(0, 3));
        for (int box = 0; box < 3; box++) {
            x.kind(box, 2, 1000);
        }
        Check.due("GLASS in a row", 0, () -> x.ray(0, 0, 0, 3, 0, 0));
        int[] order = {1, 2, 0};
        for (int k = 0; k < 3; k++) {
            int hit = k;
            Check.due("hit " + k, order[k], () -> x.hit(hit, 0));
        }
    }

    private static void firstAxisOfAnEdge() {
        LightRays x = new LightRays(50);
        x.box(5, 5, 5, 9, 9, 9);
        x.kind(0, 1, 1000);
        x.ray(0, 0, 0, 1, 1, 1);
        Check.due("x before y and z", 0, () -> x.hit(0, 1));
        Check.due("only x is turned", -1, () -> x.told(2));
        Check.due("y is not", 1, () -> x.told(3));
        x.ray(6, 0, 0, 0, 1, 1);
        Check.due("y before z", 1, () -> x.hit(0, 1));
        Check.due("y is turned", -1, () -> x.told(3));
        Check.due("z is not", 1, () -> x.told(4));
        x.ray(4, 3, 4, 1, 2, 2);
        Check.due("the latest passed face: x and y at 1, z at 1/2", 0, () -> x.hit(0, 1));
        x.ray(7, 4, 7, 1, 1, 0);
        Check.due("a face passed before time 0 is not it", 1, () -> x.hit(0, 1));
        x.ray(8, 3, 9, 0, 1, -1);
        Check.due("from above on z, at 2 on y", 1, () -> x.hit(0, 1));
        Check.due("at the time 2", 2, () -> x.hit(0, 2));
    }

    private static void sameTimeOnlyGreaterNumbers() {
        LightRays x = new LightRays(50);
        x.box(-50, 5, -50, 50, 6, 50);
        x.box(5, -50, -50, 6, 50, 50);
        x.box(3, 5, -50, 5, 6, 50);
        x.kind(0, 2, 1000);
        x.kind(1, 1, 1000);
        Check.due("glass 0, mirror 1, then SOLID 2 in the corner", 1, () -> x.ray(0, 0, 0, 1, 1, 0));
        Check.due("three hits at once", 3, () -> x.told(0));
        Check.due("the third", 2, () -> x.hit(2, 0));
        Check.due("its time", 5, () -> x.hit(2, 2));
        LightRays y = new LightRays(50);
        y.box(3, 5, -50, 5, 6, 50);
        y.box(5, -50, -50, 6, 50, 50);
        y.kind(1, 1, 1000);
        Check.due("the mirror's lesser neighbour does not count at its time", 0, () -> y.ray(0, 0, 0, 1, 1, 0));
        Check.due("one hit", 1, () -> y.told(0));
    }

    private static void lost() {
        LightRays x = new LightRays(9);
        x.box(1, -9, -9, 2, 9, 9);
        x.kind(0, 2, 0);
        Check.due("no light behind GLASS", 2, () -> x.ray(0, 0, 0, 1, 0, 0));
        Check.due("its light", 0, () -> x.told(1));
        x.kind(0, 1, 0);
        Check.due("no light behind a MIRROR", 2, () -> x.ray(0, 0, 0, 1, 0, 0));
        Check.due("turned all the same", -1, () -> x.told(2));
        x.kind(0, 0, 0);
        Check.due("SOLID before LOST", 1, () -> x.ray(0, 0, 0, 1, 0, 0));
        x.kind(0, 1, 1000);
        x.box(-2, -9, -9, -1, 9, 9);
        x.kind(1, 1, 1000);
        Check.due("30 hits between mirrors", 2, () -> x.ray(0, 0, 0, 1, 0, 0));
        Check.due("they are 30", 30, () -> x.told(0));
        Check.due("turned by the 30th", 1, () -> x.told(2));
        Check.due("time of the 30th", 59, () -> x.hit(29, 2));
        x.kind(0, 1, 100);
        Check.due("light rounded down to none", 2, () -> x.ray(0, 0, 0, 1, 0, 0));
        Check.due("at the hit of 1/10 the 7th time", 13, () -> x.told(0));
        thirtiethHit();
    }

    /** Mirrored at the times 1/2, 3/2 and so on, so that what it meets at 29 is the 30th hit. */
    private static void thirtiethHit() {
        LightRays x = new LightRays(50);
        x.box(8, -9, -50, 9, 9, 50);
        x.box(-9, -9, -50, -8, 9, 50);
        x.kind(0, 1, 1000);
        x.kind(1, 1, 1000);
        x.box(-8, -9, 9, 8, 9, 10);
        Check.due("the 30th hit is SOLID", 1, () -> x.ray(0, 0, -20, 16, 0, 1));
        Check.due("hits", 30, () -> x.told(0));
        Check.due("the 30th hit's box", 2, () -> x.hit(29, 0));
        Check.due("the 30th hit's time", 29, () -> x.hit(29, 2));
        x.kind(2, 2, 500);
        Check.due("the 30th hit is GLASS", 2, () -> x.ray(0, 0, -20, 16, 0, 1));
        Check.due("it still dims", 500000, () -> x.told(1));
        x.off(2, true);
        Check.due("the 30th hit is a MIRROR", 2, () -> x.ray(0, 0, -20, 16, 0, 1));
        x.box(-8, -9, 10, 8, 9, 11);
        Check.due("SOLID behind the 30th hit", 2, () -> x.ray(0, 0, -20, 16, 0, 1));
        Check.due("no 31st hit", 30, () -> x.told(0));
        x.off(2, false);
        x.kind(2, 0, 0);
        Check.due("SOLID as the 29th hit", 1, () -> x.ray(0, 0, -19, 16, 0, 1));
        Check.due("29 hits", 29, () -> x.told(0));
    }

    private static void insideMirrorAndGlass() {
        LightRays x = new LightRays(9);
        x.box(-2, -2, -2, 2, 2, 2);
        x.kind(0, 1, 10);
        Check.due("out of a MIRROR", 0, () -> x.ray(0, 0, 0, 1, 0, 0));
        Check.due("no hit", 0, () -> x.told(0));
        x.kind(0, 2, 10);
        Check.due("out of GLASS", 0, () -> x.ray(1, 1, 1, -1, -1, -1));
        Check.due("no hit of GLASS", 0, () -> x.told(0));
    }

    /** The ray is in the glass just before it is mirrored at its face, and just behind: it does not enter it there. */
    private static void glassAgainstMirror() {
        for (int mirror = 0; mirror < 2; mirror++) {
            LightRays x = new LightRays(50);
            int glass = 1 - mirror;
            for (int box = 0; box < 2; box++) {
                x.box(box == mirror ? 10 : 0, -5, -5, box == mirror ? 20 : 10, 5, 5);
            }
            x.kind(mirror, 1, 1000);
            x.kind(glass, 2, 500);
            Check.due("to the mirror behind the glass and back", 0, () -> x.ray(-5, 0, 0, 1, 0, 0));
            Check.due("two hits", 2, () -> x.told(0));
            Check.due("dimmed once", 500000, () -> x.told(1));
            Check.due("from the face at time 0", 0, () -> x.ray(10, 0, 0, 1, 0, 0));
            Check.due("there it enters a greater number's glass", mirror == 0 ? 2 : 1, () -> x.told(0));
        }
    }

    /** Mirrored at x = 5, where it also comes over the glass's edge: it was not in the glass before. */
    private static void enteringByAMirrorAtItsOwnFace() {
        LightRays x = new LightRays(50);
        x.box(5, -50, -50, 6, 50, 50);
        x.box(0, 0, -50, 5, 9, 50);
        x.kind(0, 1, 1000);
        x.kind(1, 2, 500);
        x.ray(1, -4, 0, 1, 1, 0);
        Check.due("mirror and glass at once", 2, () -> x.told(0));
        Check.due("the glass", 1, () -> x.hit(1, 0));
        Check.due("at the mirror's time", 4, () -> x.hit(1, 2));
    }

    private static void farTimesStayExact() {
        LightRays x = new LightRays(1000);
        x.box(999, -1000, -1000, 1000, 1000, 1000);
        x.box(-1000, -1000, -1000, -999, 1000, 1000);
        x.kind(0, 1, 1000);
        x.kind(1, 1, 1000);
        Check.due("to and fro", 2, () -> x.ray(-999, 0, 0, 1, 0, 0));
        Check.due("the farthest time", 1998L * 30, () -> x.hit(29, 2));
        Check.due("the farthest place", -999, () -> x.place(29, 0, 0));
        Check.due("to and fro by 97", 2, () -> x.ray(-998, 0, 0, 97, 0, 0));
        Check.due("above", 1998L * 29 + 1997, () -> x.hit(29, 2));
        Check.due("below", 97, () -> x.hit(29, 3));
    }
}
