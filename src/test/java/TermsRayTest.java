/** What the document's terms say of a ray, sentence by sentence. */
public final class TermsRayTest {
    public static void main(String[] args) {
        itsWay();
        notOnItsFaces();
        notInsideJustBehind();
        insideJustBefore();
        glassAgainstMirror();
        glassInACornerOfMirrors();
        onAFaceAtFirst();
        theGreatestTime();
        outBeforeIn();
        planesItDoesNotPass();
        notOff();
        notBeforeTheLatestHit();
        leastTime();
        leastNumber();
        sameTimeOnlyGreaterNumbers();
        enteringAtAMirrorsTime();
        firstAxis();
        solid();
        mirror();
        glass();
        solidAtOnce();
        lostWithoutLight();
        lostBehindTheThirtieth();
        sky();
        solidBeforeLost();
        farTimesStayExact();
        Check.end();
    }

    private static void itsWay() {
        Check.sentence("a LIGHT of 1000000. At the time t, from 0 on, it is at the point and t times the direction");
        LightRays x = new LightRays(50);
        x.box(10, -50, -50, 20, 50, 50);
        Check.due("ahead", 1, () -> x.ray(1, 2, 3, 6, -1, 4));
        due(x, 0, 0, 0, 3, 2);
        Check.due("light", 1000000, () -> x.told(1));
        Check.due("on y, above", 1, () -> x.place(0, 1, 0));
        Check.due("on y, below", 2, () -> x.place(0, 1, 1));
        Check.due("on z", 9, () -> x.place(0, 2, 0));
        Check.due("what is behind it is not met", 0, () -> x.ray(25, 0, 0, 1, 0, 0));
        Check.due("nor slowly", 0, () -> x.ray(21, 0, 0, 1, 100, 100));
        Check.due("light of a ray that meets nothing", 1000000, () -> x.told(1));
    }

    private static void notOnItsFaces() {
        Check.sentence("in the box's inside (not on its faces)");
        LightRays x = new LightRays(9);
        x.box(-1, -1, -1, 1, 1, 1);
        for (int side = -1; side <= 1; side += 2) {
            int s = side;
            Check.due("along a face of y " + s, 0, () -> x.ray(-5, s, 0, 1, 0, 0));
            Check.due("along a face of z " + s, 0, () -> x.ray(-5, 0, s, 1, 0, 0));
            Check.due("along a face of x " + s, 0, () -> x.ray(s, -5, 0, 0, 1, 0));
            Check.due("along an edge " + s, 0, () -> x.ray(-5, s, s, 1, 0, 0));
            Check.due("askew in a face " + s, 0, () -> x.ray(-3, -3, s, 1, 1, 0));
            Check.due("from a face along it " + s, 0, () -> x.ray(s, 0, 0, 0, 1, 1));
            Check.due("from a face away " + s, 0, () -> x.ray(s, 0, 0, s, 1, 0));
        }
        Check.due("from an edge along a face", 0, () -> x.ray(0, 1, 1, 0, -1, 0));
        Check.due("a hair inside", 1, () -> x.ray(-3, 0, 0, 100, 49, 0));
    }

    private static void notInsideJustBehind() {
        Check.sentence("at all times just behind t");
        LightRays x = new LightRays(9);
        x.box(-1, -1, -1, 1, 1, 1);
        Check.due("touching an edge", 0, () -> x.ray(-3, -1, 0, 1, 1, 0));
        Check.due("touching an edge, a hair inside", 1, () -> x.ray(-3, -1, 0, 100, 99, 0));
        Check.due("touching an edge, a hair outside", 0, () -> x.ray(-3, -1, 0, 99, 100, 0));
        Check.due("touching a corner", 0, () -> x.ray(-1, 1, 3, 1, 0, -1));
        Check.due("touching a corner from all sides", 0, () -> x.ray(-3, -1, 1, 1, 1, -1));
        Check.due("from a corner along an edge", 0, () -> x.ray(1, 1, 1, -1, 0, 0));
        Check.due("from a corner along a face", 0, () -> x.ray(1, 1, 1, -1, -1, 0));
        Check.due("from a corner over another edge", 0, () -> x.ray(1, 1, 1, -1, -1, 1));
        Check.due("from a corner in", 1, () -> x.ray(1, 1, 1, -1, -1, -1));
    }

    private static void insideJustBefore() {
        Check.sentence("and at no time just before t");
        for (int kind = 1; kind < 3; kind++) {
            LightRays x = new LightRays(9);
            x.box(-2, -2, -2, 2, 2, 2);
            x.kind(0, kind, 10);
            Check.due("out of kind " + kind, 0, () -> x.ray(0, 0, 0, 1, 0, 0));
            Check.due("no hit", 0, () -> x.told(0));
            Check.due("askew out of kind " + kind, 0, () -> x.ray(1, 1, 1, -1, -1, -1));
            Check.due("no hit either", 0, () -> x.told(0));
            Check.due("all its light", 1000000, () -> x.told(1));
        }
    }

    /** The ray is in the glass just before it is mirrored at its face, and just behind: it does not enter it there. */
    private static void glassAgainstMirror() {
        Check.sentence("and at no time just before t: mirrored at the face of a box in which it was");
        for (int mirror = 0; mirror < 2; mirror++) {
            LightRays x = new LightRays(50);
            int glass = 1 - mirror;
            for (int box = 0; box < 2; box++) {
                x.box(box == mirror ? 10 : 0, -5, -5, box == mirror ? 20 : 10, 5, 5);
            }
            x.kind(mirror, 1, 1000);
            x.kind(glass, 2, 500);
            Check.due("to the mirror behind the glass and back", 0, () -> x.ray(-5, 0, 0, 1, 0, 0));
            Check.due("two hits", 2, () -> x.told(0));
            Check.due("dimmed once", 500000, () -> x.told(1));
            Check.due("from the face at time 0", 0, () -> x.ray(10, 0, 0, 1, 0, 0));
            Check.due("there it enters a greater number's glass", mirror == 0 ? 2 : 1, () -> x.told(0));
        }
        for (int axis = 0; axis < 3; axis++) {
            for (int speed : new int[] {1, 3, 7}) {
                glassAroundTheRay(axis, -1, speed);
                glassAroundTheRay(axis, 1, speed);
            }
        }
    }

    /** The ray is in the glass all the time, until it is thrown back by a mirror that stands at a face of it. */
    private static void glassAroundTheRay(int axis, int side, int speed) {
        int[] mirror = {-30, -30, -30, 30, 30, 30};
        mirror[axis] = side < 0 ? -11 : 10;
        mirror[axis + 3] = side < 0 ? -10 : 11;
        int[] d = {1, 1, 1};
        d[(axis + 1) % 3] = -1;
        d[axis] = side * speed;
        LightRays x = new LightRays(50);
        x.box(mirror[0], mirror[1], mirror[2], mirror[3], mirror[4], mirror[5]);
        x.kind(0, 1, 1000);
        x.box(-10, -10, -10, 10, 10, 10);
        x.kind(1, 2, 500);
        String name = "axis " + axis + ", side " + side + ", speed " + speed;
        Check.due(name, 0, () -> x.ray(axis == 0 ? side : 1, axis == 1 ? side : -1, axis == 2 ? side : 0, d[0], d[1], d[2]));
        Check.due(name + ": one hit", 1, () -> x.told(0));
        Check.due(name + ": all its light", 1000000, () -> x.told(1));
    }

    private static void glassInACornerOfMirrors() {
        Check.sentence("and at no time just before t: two mirrors at once");
        for (int glass = 0; glass < 3; glass++) {
            LightRays x = new LightRays(50);
            int[][] boxes = {{10, -20, -9, 11, 20, 9}, {-20, 10, -9, 20, 11, 9}};
            for (int box = 0; box < 3; box++) {
                int[] b = box == glass ? new int[] {-10, -10, -9, 10, 10, 9} : boxes[box < glass ? box : box - 1];
                x.box(b[0], b[1], b[2], b[3], b[4], b[5]);
                x.kind(box, box == glass ? 2 : 1, 900);
            }
            Check.due("thrown back by both", 0, () -> x.ray(0, 0, 0, 3, 3, 0));
            Check.due("two hits", 2, () -> x.told(0));
            Check.due("of the mirrors alone", 810000, () -> x.told(1));
            Check.due("both at once", 10, () -> x.hit(1, 2));
            Check.due("x", -3, () -> x.told(2));
            Check.due("y", -3, () -> x.told(3));
            Check.due("through the glass, and back", 0, () -> x.ray(-12, -12, 0, 1, 1, 0));
            Check.due("three hits", 3, () -> x.told(0));
        }
    }

    private static void onAFaceAtFirst() {
        Check.sentence("(or t is 0, and it is not in it at t)");
        LightRays x = new LightRays(9);
        x.box(-1, -1, -1, 1, 1, 1);
        for (int axis = 0; axis < 3; axis++) {
            for (int side = -1; side <= 1; side += 2) {
                int[] p = {0, 0, 0};
                int[] d = {5, 5, 5};
                p[axis] = side;
                d[axis] = -side;
                Check.due("in by a face", 1, () -> x.ray(p[0], p[1], p[2], d[0], d[1], d[2]));
                due(x, 0, 0, axis, 0, 1);
            }
        }
        Check.due("in by an edge", 1, () -> x.ray(0, 1, 1, 0, -1, -1));
        due(x, 0, 0, 1, 0, 1);
        Check.due("in by a corner", 1, () -> x.ray(-1, 1, -1, 3, -2, 1));
        due(x, 0, 0, 0, 0, 1);
        x.kind(0, 2, 400);
        Check.due("in by a face of GLASS", 0, () -> x.ray(1, 0, 0, -1, 0, 0));
        Check.due("one hit", 1, () -> x.told(0));
        Check.due("dimmed", 400000, () -> x.told(1));
        x.kind(0, 1, 400);
        Check.due("back from a face of a MIRROR", 0, () -> x.ray(1, 0, 0, -7, 0, 0));
        Check.due("turned at once", 7, () -> x.told(2));
    }

    private static void theGreatestTime() {
        Check.sentence("t is the greatest time at which it passes, towards the box, the plane of one of its faces");
        int[][] boxes = {{4, 6, 8, 9, 30, 50}, {2, 8, 8, 9, 30, 50}, {2, 4, 20, 9, 30, 50}};
        int[] times = {4, 4, 5};
        for (int axis = 0; axis < 3; axis++) {
            int[] b = boxes[axis];
            LightRays x = new LightRays(50);
            x.box(b[0], b[1], b[2], b[3], b[4], b[5]);
            x.box(-b[3], -b[4], -b[5], -b[0], -b[1], -b[2]);
            Check.due("upwards", 1, () -> x.ray(0, 0, 0, 1, 2, 4));
            due(x, 0, 0, axis, times[axis], 1);
            Check.due("downwards", 1, () -> x.ray(0, 0, 0, -1, -2, -4));
            due(x, 0, 1, axis, times[axis], 1);
        }
        LightRays y = new LightRays(50);
        y.box(5, 5, 5, 9, 9, 9);
        Check.due("a plane passed before time 0", 1, () -> y.ray(7, 4, 7, 1, 1, 0));
        due(y, 0, 0, 1, 1, 1);
        Check.due("out on x before it is in on y", 0, () -> y.ray(7, 0, 7, 1, 2, 0));
        Check.due("out on x as it is in on y", 0, () -> y.ray(5, 1, 7, 1, 1, 0));
    }

    /** It leaves the box on one axis at the time 3, and comes in on another just before, at, or behind that. */
    private static void outBeforeIn() {
        Check.sentence("it is in the box's inside at all times just behind t (out on one axis, in on another)");
        LightRays x = new LightRays(50);
        x.box(5, 5, 5, 9, 9, 9);
        x.box(-9, -9, -9, -5, -5, -5);
        for (int i = 0; i < 6; i++) {
            int out = i % 3;
            int in = (out + 1 + i / 3) % 3;
            for (int start = -17; start <= -15; start++) {
                int[] p = {5, 5, 5};
                int[] d = {1, 1, 1};
                p[out] = 0;
                d[out] = 3;
                p[in] = start;
                d[in] = 7;
                int want = start == -15 ? 1 : 0;
                String name = "out on " + out + ", in on " + in + " from " + start;
                Check.due(name, want, () -> x.ray(p[0], p[1], p[2], d[0], d[1], d[2]));
                Check.due(name + " downwards", want, () -> x.ray(-p[0], -p[1], -p[2], -d[0], -d[1], -d[2]));
                Check.due(name + ": axis", want == 1 ? in : -1, () -> x.hit(0, 1));
            }
        }
    }

    private static void planesItDoesNotPass() {
        Check.sentence("one of its faces that it passes at all");
        LightRays x = new LightRays(50);
        x.box(5, 5, 5, 9, 9, 9);
        for (int axis = 0; axis < 3; axis++) {
            for (int other = 5; other <= 9; other++) {
                int[] p = {other, other, other};
                int[] d = {0, 0, 0};
                p[axis] = 2;
                d[axis] = 1;
                boolean meets = other > 5 && other < 9;
                Check.due("axis " + axis + " at " + other, meets ? 1 : 0, () -> x.ray(p[0], p[1], p[2], d[0], d[1], d[2]));
                Check.due("its time", meets ? 3 : -1, () -> x.hit(0, 2));
                Check.due("its axis", meets ? d[1] + 2 * d[2] : -1, () -> x.hit(0, 1));
            }
        }
    }

    private static void notOff() {
        Check.sentence("of all boxes that are not OFF");
        LightRays x = new LightRays(50);
        x.box(10, -5, -5, 12, 5, 5);
        x.box(20, -5, -5, 22, 5, 5);
        x.off(0, true);
        x.ray(0, 0, 0, 1, 0, 0);
        due(x, 0, 1, 0, 20, 1);
        x.off(0, false);
        x.ray(0, 0, 0, 1, 0, 0);
        due(x, 0, 0, 0, 10, 1);
    }

    /** Behind the mirror stands a box that the turned way, drawn backwards, goes through. */
    private static void notBeforeTheLatestHit() {
        Check.sentence("at a time not before its latest hit's (0 at first)");
        LightRays x = new LightRays(50);
        x.box(10, -5, -5, 11, 5, 5);
        x.box(12, -5, -5, 14, 5, 5);
        x.kind(0, 1, 1000);
        Check.due("what is behind the mirror is not met", 0, () -> x.ray(0, 0, 0, 1, 0, 0));
        Check.due("one hit", 1, () -> x.told(0));
        x.box(2, -5, -5, 4, 5, 5);
        x.kind(2, 2, 500);
        Check.due("glass before the mirror", 0, () -> x.ray(0, 0, 0, 1, 0, 0));
        due(x, 0, 2, 0, 2, 1);
        due(x, 1, 0, 0, 10, 1);
        due(x, 2, 2, 0, 16, 1);
        due(x, 3, -1, -1, -1, -1);
        Check.due("dimmed twice", 250000, () -> x.told(1));
    }

    private static void leastTime() {
        Check.sentence("that with the least such time");
        LightRays x = new LightRays(50);
        x.box(30, -5, -5, 40, 5, 5);
        x.box(20, -5, -5, 25, 5, 5);
        x.box(10, -5, -5, 40, 5, 5);
        for (int box = 0; box < 3; box++) {
            x.kind(box, 2, 1000);
        }
        Check.due("GLASS in a row", 0, () -> x.ray(0, 0, 0, 3, 0, 0));
        due(x, 0, 2, 0, 10, 3);
        due(x, 1, 1, 0, 20, 3);
        due(x, 2, 0, 0, 10, 1);
        LightRays y = new LightRays(1000);
        y.box(-1000, 99, -1000, 1000, 1000, 1000);
        y.box(100, -1000, -1000, 1000, 1000, 1000);
        y.ray(0, 0, 0, 99, 98, 0);
        due(y, 0, 1, 0, 100, 99);
        Check.due("98/99 is before 99/100, by a hair", 1, () -> y.ray(1, 1, 0, 100, 99, 0));
        due(y, 0, 0, 1, 98, 99);
    }

    private static void leastNumber() {
        Check.sentence("of several the least number");
        LightRays x = new LightRays(50);
        x.box(20, -5, -5, 30, 5, 5);
        x.box(10, -5, -5, 30, 5, 5);
        x.box(10, -9, -9, 12, 9, 9);
        x.box(-5, 10, -5, 5, 30, 5);
        x.kind(1, 2, 1000);
        x.kind(2, 2, 1000);
        x.ray(0, 0, 0, 3, 0, 0);
        due(x, 0, 1, 0, 10, 3);
        due(x, 1, 2, 0, 10, 3);
        due(x, 2, 0, 0, 20, 3);
        x.kind(2, 0, 1000);
        Check.due("the greater number, SOLID, is met at the same time", 1, () -> x.ray(0, 0, 0, 1, 0, 0));
        Check.due("as the second", 2, () -> x.told(0));
        x.kind(1, 0, 1000);
        Check.due("the least number, SOLID, is met alone", 1, () -> x.ray(0, 0, 0, 1, 0, 0));
        Check.due("one hit", 1, () -> x.told(0));
    }

    private static void sameTimeOnlyGreaterNumbers() {
        Check.sentence("at the time of the latest hit itself only boxes of greater numbers than that one's count");
        LightRays x = new LightRays(50);
        x.box(-50, 5, -50, 50, 6, 50);
        x.box(5, -50, -50, 6, 50, 50);
        x.box(3, 5, -50, 5, 6, 50);
        x.kind(0, 2, 1000);
        x.kind(1, 1, 1000);
        Check.due("glass 0, mirror 1, then SOLID 2 in the corner", 1, () -> x.ray(0, 0, 0, 1, 1, 0));
        Check.due("three hits at once", 3, () -> x.told(0));
        Check.due("the third", 2, () -> x.hit(2, 0));
        Check.due("its time", 5, () -> x.hit(2, 2));
        LightRays y = new LightRays(50);
        y.box(3, 5, -50, 5, 6, 50);
        y.box(5, -50, -50, 6, 50, 50);
        y.kind(1, 1, 1000);
        Check.due("the mirror's lesser neighbour does not count at its time", 0, () -> y.ray(0, 0, 0, 1, 1, 0));
        Check.due("one hit", 1, () -> y.told(0));
        y.kind(0, 2, 100);
        y.kind(1, 2, 100);
        Check.due("glass is not met once more at its time", 0, () -> y.ray(4, 0, 0, 0, 1, 0));
        Check.due("one hit of glass", 1, () -> y.told(0));
    }

    /** Mirrored at x = 5, where it also comes over the glass's edge: it was not in the glass before. */
    private static void enteringAtAMirrorsTime() {
        Check.sentence("only boxes of greater numbers than that one's count: entered by the turned direction");
        for (int side = -1; side <= 1; side += 2) {
            int s = side;
            LightRays x = new LightRays(50);
            x.box(5, -50, -50, 6, 50, 50);
            x.box(0, s > 0 ? 0 : -9, -50, 5, s > 0 ? 9 : 0, 50);
            x.kind(0, 1, 1000);
            x.kind(1, 2, 500);
            x.ray(1, -4 * s, 0, 3, 3 * s, 0);
            Check.due("mirror and glass at once", 2, () -> x.told(0));
            Check.due("the glass", 1, () -> x.hit(1, 0));
            Check.due("at the mirror's time", 4, () -> x.hit(1, 2));
            Check.due("at the mirror's time, below", 3, () -> x.hit(1, 3));
            x.box(6, -2, -50, 9, 2, 50);
            Check.due("what only the old direction enters is not met", 0, () -> x.ray(1, -4 * s, 0, 1, s, 0));
        }
        LightRays y = new LightRays(50);
        y.box(5, -50, -50, 6, 50, 50);
        y.box(5, -50, -50, 7, 50, 50);
        y.kind(0, 1, 1000);
        Check.due("SOLID behind the mirror's own face", 0, () -> y.ray(0, 0, 0, 1, 0, 0));
        Check.due("one hit", 1, () -> y.told(0));
    }

    private static void firstAxis() {
        Check.sentence("its AXIS the one of the face that it passes at that time, of several the first one of x, y, z");
        LightRays x = new LightRays(50);
        x.box(5, 5, 5, 9, 9, 9);
        x.kind(0, 1, 1000);
        x.ray(0, 0, 0, 1, 1, 1);
        Check.due("x before y and z", 0, () -> x.hit(0, 1));
        Check.due("only x is turned", -1, () -> x.told(2));
        Check.due("y is not", 1, () -> x.told(3));
        Check.due("z is not", 1, () -> x.told(4));
        x.ray(0, 6, 0, 1, 0, 1);
        Check.due("x before z", 0, () -> x.hit(0, 1));
        x.ray(6, 0, 0, 0, 1, 1);
        Check.due("y before z", 1, () -> x.hit(0, 1));
        Check.due("y is turned", -1, () -> x.told(3));
        Check.due("z is not turned", 1, () -> x.told(4));
        x.ray(4, 3, 4, 1, 2, 2);
        Check.due("x and y at 1, z at 1/2", 0, () -> x.hit(0, 1));
        x.ray(4, 3, 3, 2, 2, 2);
        Check.due("x at 1/2, y and z at 1", 1, () -> x.hit(0, 1));
        x.ray(8, 3, 9, 0, 1, -1);
        Check.due("z at 0, y at 2", 1, () -> x.hit(0, 1));
        x.ray(10, 10, 10, -1, -1, -1);
        Check.due("from above", 0, () -> x.hit(0, 1));
    }

    private static void solid() {
        Check.sentence("SOLID: the ray ends");
        LightRays x = new LightRays(50);
        x.box(10, -5, -5, 12, 5, 5);
        x.box(20, -5, -5, 22, 5, 5);
        x.kind(0, 0, 300);
        Check.due("ends", 1, () -> x.ray(0, 0, 0, 4, 0, 0));
        Check.due("one hit", 1, () -> x.told(0));
        Check.due("its light stays", 1000000, () -> x.told(1));
        Check.due("its direction stays", 4, () -> x.told(2));
    }

    private static void mirror() {
        Check.sentence("MIRROR: LIGHT times SHARE by 1000, rounded down, the sign of its direction on the AXIS turned");
        LightRays x = new LightRays(50);
        x.box(10, -50, -50, 11, 50, 50);
        x.box(-50, -50, 10, 50, 50, 11);
        x.box(-50, -9, -50, 50, -8, 50);
        for (int box = 0; box < 3; box++) {
            x.kind(box, 1, 999);
        }
        Check.due("three mirrors", 0, () -> x.ray(0, 0, 0, 6, -3, 4));
        due(x, 0, 0, 0, 5, 3);
        due(x, 1, 1, 2, 10, 4);
        due(x, 2, 2, 1, 8, 3);
        Check.due("997002.999 rounded down", 997002, () -> x.told(1));
        Check.due("x", -6, () -> x.told(2));
        Check.due("y", 3, () -> x.told(3));
        Check.due("z", -4, () -> x.told(4));
        Check.due("x at the third hit, above: 10 and back", 4, () -> x.place(2, 0, 0));
        Check.due("y at the third hit", -8, () -> x.place(2, 1, 0));
        Check.due("z at the third hit, above: 10 and back", 28, () -> x.place(2, 2, 0));
        Check.due("z at the third hit, below", 3, () -> x.place(2, 2, 1));
    }

    private static void glass() {
        Check.sentence("GLASS: its LIGHT likewise; it goes on");
        LightRays x = new LightRays(50);
        x.box(10, -5, -5, 30, 5, 5);
        x.box(12, -5, -5, 13, 5, 5);
        x.box(14, -5, -5, 40, 5, 5);
        for (int box = 0; box < 3; box++) {
            x.kind(box, 2, 999);
        }
        Check.due("glass in glass", 0, () -> x.ray(0, 0, 0, 2, 0, 0));
        Check.due("three hits", 3, () -> x.told(0));
        Check.due("997002.999 rounded down", 997002, () -> x.told(1));
        Check.due("not turned", 2, () -> x.told(2));
        x.kind(2, 0, 1);
        Check.due("SOLID in glass", 1, () -> x.ray(0, 0, 0, 2, 0, 0));
        Check.due("998001", 998001, () -> x.told(1));
    }

    private static void solidAtOnce() {
        Check.sentence("1 SOLID, or at once (no hit) if the point is inside a SOLID box that is not OFF");
        LightRays x = new LightRays(9);
        x.box(-9, -9, -9, 9, 9, 9);
        x.kind(0, 2, 0);
        x.box(-1, -1, -1, 1, 1, 1);
        Check.due("inside SOLID and GLASS", 1, () -> x.ray(0, 0, 0, 1, 2, 3));
        Check.due("no hit", 0, () -> x.told(0));
        Check.due("no such hit", -1, () -> x.hit(0, 0));
        Check.due("all its light", 1000000, () -> x.told(1));
        Check.due("its direction", 3, () -> x.told(4));
        for (int axis = 0; axis < 3; axis++) {
            for (int side = -1; side <= 1; side += 2) {
                int[] p = {0, 0, 0};
                p[axis] = side;
                Check.due("on a face it is not inside", 0, () -> x.ray(p[0], p[1], p[2], p[0], p[1], p[2]));
            }
        }
        x.off(1, true);
        Check.due("inside a SOLID box that is OFF", 0, () -> x.ray(0, 0, 0, 1, 2, 3));
        x.off(1, false);
        x.kind(1, 1, 0);
        Check.due("inside a MIRROR", 0, () -> x.ray(0, 0, 0, 1, 2, 3));
    }

    private static void lostWithoutLight() {
        Check.sentence("2 LOST, when its LIGHT is 0 behind a hit");
        LightRays x = new LightRays(9);
        x.box(1, -9, -9, 2, 9, 9);
        x.box(3, -9, -9, 4, 9, 9);
        x.box(5, -9, -9, 6, 9, 9);
        x.box(7, -9, -9, 8, 9, 9);
        x.kind(0, 2, 0);
        Check.due("no light behind GLASS", 2, () -> x.ray(0, 0, 0, 1, 0, 0));
        Check.due("its light", 0, () -> x.told(1));
        Check.due("nothing is met behind that", 1, () -> x.told(0));
        x.kind(0, 1, 0);
        Check.due("no light behind a MIRROR", 2, () -> x.ray(0, 0, 0, 1, 0, 0));
        Check.due("turned all the same", -1, () -> x.told(2));
        for (int box = 0; box < 2; box++) {
            x.kind(box, 2, 1);
        }
        x.kind(2, 2, 1000);
        x.kind(3, 2, 1000);
        Check.due("a light of 1 is not lost", 0, () -> x.ray(0, 0, 0, 1, 0, 0));
        Check.due("the least light", 1, () -> x.told(1));
        x.kind(2, 2, 999);
        Check.due("rounded down to 0", 2, () -> x.ray(0, 0, 0, 1, 0, 0));
        Check.due("at the third hit", 3, () -> x.told(0));
    }

    /** Mirrored at the times 1/2, 3/2 and so on, so that what it meets at 29 is the 30th hit. */
    private static LightRays toAndFro() {
        LightRays x = new LightRays(50);
        x.box(8, -9, -50, 9, 9, 50);
        x.box(-9, -9, -50, -8, 9, 50);
        x.kind(0, 1, 1000);
        x.kind(1, 1, 1000);
        x.box(-8, -9, 9, 8, 9, 10);
        return x;
    }

    private static void lostBehindTheThirtieth() {
        Check.sentence("or behind the 30th hit (also if that was one of a MIRROR or GLASS)");
        LightRays x = toAndFro();
        x.off(2, true);
        Check.due("the 30th hit is a MIRROR", 2, () -> x.ray(0, 0, -20, 16, 0, 1));
        Check.due("30 hits", 30, () -> x.told(0));
        Check.due("turned by the 30th", 16, () -> x.told(2));
        due(x, 29, 1, 0, 59, 2);
        due(x, 30, -1, -1, -1, -1);
        x.off(2, false);
        x.kind(2, 2, 500);
        Check.due("the 30th hit is GLASS", 2, () -> x.ray(0, 0, -20, 16, 0, 1));
        due(x, 29, 2, 2, 29, 1);
        Check.due("it still dims", 500000, () -> x.told(1));
        x.off(1, true);
        Check.due("two hits are no 30", 0, () -> x.ray(0, 0, -20, 16, 0, 1));
        LightRays y = toAndFro();
        y.off(2, true);
        y.box(-8, -9, 9, 8, 9, 11);
        y.kind(3, 2, 1000);
        y.box(-50, -50, -50, -20, 50, 50);
        y.off(1, true);
        Check.due("SOLID behind few hits is met", 1, () -> y.ray(0, 0, -20, 16, 0, 1));
        stepsOfGlass();
    }

    /** Panes of glass before a mirror are met on the way there and on the way back. */
    private static void stepsOfGlass() {
        LightRays x = new LightRays(50);
        x.box(30, -9, -9, 31, 9, 9);
        x.kind(0, 1, 1000);
        for (int i = 1; i <= 15; i++) {
            x.box(2 * i - 1, -9, -9, 2 * i, 9, 9);
            x.kind(i, 2, 1000);
        }
        x.off(15, true);
        Check.due("14 panes, a mirror, 14 panes: 29 hits", 0, () -> x.ray(0, 0, 0, 1, 0, 0));
        Check.due("29 hits", 29, () -> x.told(0));
        x.box(-3, -9, -9, -2, 9, 9);
        x.kind(16, 2, 1000);
        Check.due("the 30th hit with nothing behind it", 2, () -> x.ray(0, 0, 0, 1, 0, 0));
        Check.due("they are 30", 30, () -> x.told(0));
        x.box(-9, -9, -9, -8, 9, 9);
        Check.due("SOLID behind the 30th hit is not met", 2, () -> x.ray(0, 0, 0, 1, 0, 0));
        Check.due("they stay 30", 30, () -> x.told(0));
        x.off(16, true);
        Check.due("SOLID as the 30th", 1, () -> x.ray(0, 0, 0, 1, 0, 0));
    }

    private static void sky() {
        Check.sentence("0 SKY, when there is no next hit");
        LightRays x = new LightRays(50);
        Check.due("no boxes", 0, () -> x.ray(0, 0, 0, 1, 0, 0));
        x.box(10, -5, -5, 12, 5, 5);
        x.kind(0, 2, 700);
        Check.due("behind the last hit", 0, () -> x.ray(0, 0, 0, 1, 0, 0));
        Check.due("a hit there was", 1, () -> x.told(0));
        Check.due("beside all", 0, () -> x.ray(0, 6, 0, 1, 0, 0));
        Check.due("beyond SIZE", 0, () -> x.ray(50, 50, 50, 100, 100, 100));
    }

    private static void solidBeforeLost() {
        Check.sentence("(SOLID before LOST.)");
        LightRays x = toAndFro();
        Check.due("the 30th hit is SOLID", 1, () -> x.ray(0, 0, -20, 16, 0, 1));
        Check.due("hits", 30, () -> x.told(0));
        due(x, 29, 2, 2, 29, 1);
        Check.due("the 29th hit is SOLID", 1, () -> x.ray(0, 0, -19, 16, 0, 1));
        Check.due("29 hits", 29, () -> x.told(0));
        Check.due("the 31st would be", 2, () -> x.ray(0, 0, -21, 16, 0, 1));
        x.kind(2, 0, 0);
        Check.due("SOLID with a SHARE of 0", 1, () -> x.ray(0, 0, 8, 0, 0, 1));
        Check.due("takes no light", 1000000, () -> x.told(1));
    }

    private static void farTimesStayExact() {
        Check.sentence("it goes on with the sign of its direction on the AXIS turned, time going on");
        LightRays x = new LightRays(1000);
        x.box(999, -1000, -1000, 1000, 1000, 1000);
        x.box(-1000, -1000, -1000, -999, 1000, 1000);
        x.kind(0, 1, 1000);
        x.kind(1, 1, 1000);
        Check.due("to and fro", 2, () -> x.ray(-999, 0, 0, 1, 0, 0));
        Check.due("the farthest time", 1998L * 30, () -> x.hit(29, 2));
        Check.due("the farthest place", -999, () -> x.place(29, 0, 0));
        Check.due("to and fro by 97", 2, () -> x.ray(-998, 0, 0, 97, 0, 0));
        Check.due("above", 1998L * 29 + 1997, () -> x.hit(29, 2));
        Check.due("below", 97, () -> x.hit(29, 3));
        Check.due("back to where it was", -999, () -> x.place(29, 0, 0));
    }

    /** The k-th hit's box, axis, and time, which is brought to lowest terms here. */
    private static void due(LightRays x, int k, int box, int axis, int above, int below) {
        int divisor = 1;
        for (int i = 2; i <= below; i++) {
            if (above % i == 0 && below % i == 0) {
                divisor = i;
            }
        }
        int[] wants = {box, axis, above / divisor, below / divisor};
        for (int what = 0; what < 4; what++) {
            int w = what;
            Check.due("hit " + k + ", " + what, wants[what], () -> x.hit(k, w));
        }
    }
}
