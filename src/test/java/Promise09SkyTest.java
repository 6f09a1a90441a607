/** Promise 9: sky, and what the terms say of its octants. */
public final class Promise09SkyTest {
    public static void main(String[] args) {
        whatItWas();
        zeroAtFirst();
        octantsBounds();
        brightnessBounds();
        octantsOfDirections();
        Check.end();
    }

    private static void whatItWas() {
        Check.sentence("The brightness of an OCTANT: what it was");
        LightRays x = new LightRays(50);
        for (int octant = 0; octant < 8; octant++) {
            x.sky(octant, 100 + octant);
        }
        for (int octant = 7; octant >= 0; octant--) {
            int o = octant;
            Check.due("octant " + o, 100 + o, () -> x.sky(o, 7));
            Check.due("octant " + o + " once more", 7, () -> x.sky(o, 7));
        }
    }

    private static void zeroAtFirst() {
        Check.sentence("THE SKY has a brightness (0 at first)");
        LightRays x = new LightRays(50);
        for (int octant = 0; octant < 8; octant++) {
            x.fan((octant & 4) != 0 ? -1 : 1, (octant & 2) != 0 ? -1 : 1, (octant & 1) != 0 ? -1 : 1);
        }
        Check.due("a dark sky", 0, () -> x.measure(0, 0, 0));
        for (int octant = 0; octant < 8; octant++) {
            int o = octant;
            Check.due("octant " + o, 0, () -> x.sky(o, 5));
        }
        Check.due("a bright sky", 8 * 5000000L, () -> x.measure(0, 0, 0));
    }

    private static void octantsBounds() {
        Check.sentence("in each of eight OCTANTS. Illegal argument");
        LightRays x = new LightRays(50);
        for (int octant : new int[] {-1, 8, 9, Integer.MIN_VALUE, Integer.MAX_VALUE}) {
            Check.illegalArgument("octant " + octant, () -> x.sky(octant, 5));
        }
        for (int octant = 0; octant < 8; octant++) {
            int o = octant;
            Check.due("octant " + o + " is as it was", 0, () -> x.sky(o, 0));
        }
    }

    private static void brightnessBounds() {
        Check.sentence("a brightness (0 .. 1000). Illegal argument");
        LightRays x = new LightRays(50);
        x.fan(1, 1, 1);
        for (int octant = 0; octant < 8; octant++) {
            int o = octant;
            Check.due("the greatest", 0, () -> x.sky(o, 1000));
            Check.due("the least", 1000, () -> x.sky(o, 0));
            Check.due("between", 0, () -> x.sky(o, 13));
            for (int v : new int[] {-1, 1001, -1000, Integer.MIN_VALUE, Integer.MAX_VALUE}) {
                Check.illegalArgument("brightness " + v, () -> x.sky(o, v));
            }
            Check.due("as it was", 13, () -> x.sky(o, 13));
        }
        Check.due("and so is the measure", 13000000, () -> x.measure(0, 0, 0));
    }

    private static void octantsOfDirections() {
        Check.sentence("4 if the direction's x is below 0, 2 if its y is, 1 if its z is, added together");
        LightRays x = new LightRays(50);
        for (int octant = 0; octant < 8; octant++) {
            x.sky(octant, 10 + octant);
        }
        for (int dx = -1; dx <= 1; dx++) {
            for (int dy = -1; dy <= 1; dy++) {
                for (int dz = -1; dz <= 1; dz++) {
                    if (dx != 0 || dy != 0 || dz != 0) {
                        x.noFan();
                        x.fan(dx, dy, dz);
                        x.fan(dx * 100, dy * 7, dz * 50);
                        int octant = (dx == -1 ? 4 : 0) + (dy == -1 ? 2 : 0) + (dz == -1 ? 1 : 0);
                        Check.due("direction " + dx + " " + dy + " " + dz, (10 + octant) * 2000000L, () -> x.measure(0, 0, 0));
                    }
                }
            }
        }
    }
}
