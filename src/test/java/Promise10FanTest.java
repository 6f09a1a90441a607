/** Promise 10: fan. */
public final class Promise10FanTest {
    public static void main(String[] args) {
        howManyItHas();
        sameDirectionTwice();
        directionsBounds();
        notAllZero();
        illegalStateAtForty();
        argumentBeforeState();
        Check.end();
    }

    private static LightRays bright() {
        LightRays x = new LightRays(50);
        for (int octant = 0; octant < 8; octant++) {
            x.sky(octant, 1);
        }
        return x;
    }

    private static LightRays full() {
        LightRays x = bright();
        for (int i = 0; i < 40; i++) {
            x.fan(1, i, 0);
        }
        return x;
    }

    private static void howManyItHas() {
        Check.sentence("A direction of the FAN: how many it has");
        LightRays x = bright();
        for (int i = 1; i <= 40; i++) {
            int n = i;
            Check.due("direction " + n, n, () -> x.fan(1, 2 * n, 0));
            Check.due("all of them are measured", n * 1000000L, () -> x.measure(0, 0, 0));
        }
    }

    private static void sameDirectionTwice() {
        Check.sentence("A FAN has directions (the same one twice counts twice)");
        LightRays x = bright();
        Check.due("once", 1, () -> x.fan(1, 1, 1));
        Check.due("twice", 2, () -> x.fan(1, 1, 1));
        Check.due("a longer one of the same sense", 3, () -> x.fan(2, 2, 2));
        Check.due("measured", 3000000, () -> x.measure(0, 0, 0));
    }

    private static void directionsBounds() {
        Check.sentence("a DIRECTION (numbers from -100 to 100). Illegal argument (fan)");
        LightRays x = bright();
        for (int axis = 0; axis < 3; axis++) {
            for (int number : new int[] {-101, 101, Integer.MIN_VALUE, Integer.MAX_VALUE}) {
                int[] d = {1, 1, 1};
                d[axis] = number;
                Check.illegalArgument("axis " + axis + " is " + number, () -> x.fan(d[0], d[1], d[2]));
            }
        }
        Check.due("the greatest", 1, () -> x.fan(100, 100, 100));
        Check.due("the least", 2, () -> x.fan(-100, -100, -100));
        Check.due("measured", 2000000, () -> x.measure(50, -50, 50));
    }

    private static void notAllZero() {
        Check.sentence("not all 0. Illegal argument (fan)");
        LightRays x = bright();
        Check.illegalArgument("all 0", () -> x.fan(0, 0, 0));
        Check.due("x alone", 1, () -> x.fan(-1, 0, 0));
        Check.due("y alone", 2, () -> x.fan(0, 1, 0));
        Check.due("z alone", 3, () -> x.fan(0, 0, -1));
        Check.illegalArgument("all 0 behind others", () -> x.fan(0, 0, 0));
        Check.due("measured", 3000000, () -> x.measure(0, 0, 0));
    }

    private static void illegalStateAtForty() {
        Check.sentence("illegal state: it has 40");
        LightRays x = full();
        Check.illegalState("the 41st", () -> x.fan(1, 1, 1));
        Check.illegalState("and again", () -> x.fan(-100, 100, 100));
        Check.due("measured as before", 40000000, () -> x.measure(0, 0, 0));
        Check.due("it had", 40, () -> x.noFan());
        Check.due("room again", 1, () -> x.fan(1, 1, 1));
    }

    private static void argumentBeforeState() {
        Check.sentence("Of several exceptions the one named first is thrown (fan)");
        LightRays x = full();
        Check.illegalArgument("a 41st of all 0", () -> x.fan(0, 0, 0));
        Check.illegalArgument("a 41st beyond 100", () -> x.fan(0, 101, 0));
        Check.illegalArgument("a 41st beyond -100", () -> x.fan(1, 1, -101));
    }
}
