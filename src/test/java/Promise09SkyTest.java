/** Promise 9: sky. */
public final class Promise09SkyTest {
    public static void main(String[] args) {
        LightRays x = new LightRays(50);
        for (int octant = 0; octant < 8; octant++) {
            int o = octant;
            Check.due("sky at first " + o, 0, () -> x.sky(o, 100 + o));
        }
        for (int octant = 0; octant < 8; octant++) {
            int o = octant;
            Check.due("what it was " + o, 100 + o, () -> x.sky(o, 1000));
            Check.due("the greatest " + o, 1000, () -> x.sky(o, 0));
            Check.due("the least " + o, 0, () -> x.sky(o, 10 + o));
        }
        for (int number : new int[] {-1, 8, Integer.MIN_VALUE, Integer.MAX_VALUE}) {
            Check.illegalArgument("octant " + number, () -> x.sky(number, 5));
        }
        for (int number : new int[] {-1, 1001, Integer.MIN_VALUE, Integer.MAX_VALUE}) {
            Check.illegalArgument("brightness " + number, () -> x.sky(3, number));
        }
        Check.due("a call that throws changes nothing", 13, () -> x.sky(3, 13));
        octantsOfDirections(x);
        Check.end();
    }

    private static void octantsOfDirections(LightRays x) {
        for (int octant = 0; octant < 8; octant++) {
            x.noFan();
            x.fan((octant & 4) != 0 ? -1 : 0, (octant & 2) != 0 ? -7 : 3, (octant & 1) != 0 ? -1 : 0);
            Check.due("light from octant " + octant, (10 + octant) * 1000000L, () -> x.measure(0, 0, 0));
        }
    }
}
