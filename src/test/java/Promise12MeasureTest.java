/** Promise 12: measure. */
public final class Promise12MeasureTest {
    public static void main(String[] args) {
        LightRays x = new LightRays(50);
        x.box(10, -50, -50, 11, 50, 50);
        x.kind(0, 1, 600);
        x.box(-50, 10, -50, 50, 11, 50);
        x.kind(1, 2, 300);
        x.box(-5, -5, 20, 5, 5, 30);
        x.sky(0, 2);
        x.sky(1, 30);
        x.sky(4, 500);
        x.fan(1, 0, 0);
        Check.due("the octant of the direction at the end", 600000L * 500, () -> x.measure(0, 0, 0));
        x.fan(0, 1, 0);
        Check.due("and through glass", 600000L * 500 + 300000L * 2, () -> x.measure(0, 0, 0));
        x.fan(0, 0, 1);
        Check.due("no light from SOLID", 600000L * 500 + 300000L * 2, () -> x.measure(0, 0, 0));
        Check.due("from elsewhere", 600000L * 500 + 300000L * 2 + 1000000L * 2, () -> x.measure(9, 0, 0));
        x.fan(0, 0, -1);
        Check.due("octant 1", 600000L * 500 + 300000L * 2 + 1000000L * 30, () -> x.measure(0, 0, 0));
        Check.due("inside a SOLID box", 0, () -> x.measure(0, 0, 25));
        lostRaysCountNothing();
        theGreatest();
        wrongPoints(x);
        noRayComes();
        Check.end();
    }

    private static void lostRaysCountNothing() {
        LightRays x = new LightRays(9);
        x.box(1, -9, -9, 2, 9, 9);
        x.box(-2, -9, -9, -1, 9, 9);
        x.kind(0, 1, 1000);
        x.kind(1, 1, 1000);
        for (int octant = 0; octant < 8; octant++) {
            x.sky(octant, 1000);
        }
        x.fan(1, 0, 0);
        Check.due("LOST", 0, () -> x.measure(0, 0, 0));
        x.fan(0, 1, 0);
        Check.due("LOST and SKY", 1000000000L, () -> x.measure(0, 0, 0));
    }

    private static void theGreatest() {
        LightRays x = new LightRays(1000);
        for (int octant = 0; octant < 8; octant++) {
            x.sky(octant, 1000);
        }
        for (int i = 0; i < 40; i++) {
            x.fan(100 - i, -i, i);
        }
        Check.due("more than an int holds", 40000000000L, () -> x.measure(1000, -1000, 1000));
    }

    private static void wrongPoints(LightRays x) {
        for (int i = 0; i < 3; i++) {
            for (int number : new int[] {-51, 51, Integer.MIN_VALUE, Integer.MAX_VALUE}) {
                int[] p = {0, 0, 0};
                p[i] = number;
                Check.illegalArgument("number " + i + " is " + number, () -> x.measure(p[0], p[1], p[2]));
            }
        }
    }

    private static void noRayComes() {
        LightRays x = new LightRays(5);
        x.fan(1, 0, 0);
        x.measure(0, 0, 0);
        Check.illegalState("a measure is no ray()", () -> x.told(0));
        Check.illegalArgument("nor has it places", () -> x.place(0, 0, 0));
    }
}
