/** Promise 3: kind. */
public final class Promise03KindTest {
    public static void main(String[] args) {
        theKindThatItHad();
        kindAndShare();
        kindsBounds();
        sharesBounds();
        noSuchBox();
        Check.end();
    }

    private static LightRays twoWalls() {
        LightRays x = new LightRays(50);
        x.box(10, -50, -50, 20, 50, 50);
        x.box(30, -50, -50, 40, 50, 50);
        return x;
    }

    private static void theKindThatItHad() {
        Check.sentence("the KIND that it had");
        LightRays x = twoWalls();
        Check.due("to MIRROR", 0, () -> x.kind(0, 1, 500));
        Check.due("to GLASS", 1, () -> x.kind(0, 2, 0));
        Check.due("to GLASS again", 2, () -> x.kind(0, 2, 1000));
        Check.due("to SOLID", 2, () -> x.kind(0, 0, 1));
        Check.due("to SOLID again", 0, () -> x.kind(0, 0, 2));
        Check.due("the other box's", 0, () -> x.kind(1, 1, 1000));
        x.off(0, true);
        Check.due("of an OFF box", 0, () -> x.kind(0, 2, 300));
        Check.due("of an OFF box again", 2, () -> x.kind(0, 1, 300));
    }

    private static void kindAndShare() {
        Check.sentence("A box's KIND and SHARE");
        LightRays x = twoWalls();
        x.kind(0, 2, 300);
        Check.due("GLASS, then SOLID", 1, () -> x.ray(0, 0, 0, 1, 0, 0));
        Check.due("two hits", 2, () -> x.told(0));
        Check.due("its light", 300000, () -> x.told(1));
        x.kind(0, 2, 301);
        x.ray(0, 0, 0, 1, 0, 0);
        Check.due("the SHARE alone is changed", 301000, () -> x.told(1));
        x.kind(0, 1, 250);
        Check.due("MIRROR", 0, () -> x.ray(0, 0, 0, 1, 0, 0));
        Check.due("its light behind a MIRROR", 250000, () -> x.told(1));
        Check.due("turned", -1, () -> x.told(2));
        x.kind(0, 0, 250);
        Check.due("SOLID", 1, () -> x.ray(0, 0, 0, 1, 0, 0));
        Check.due("one hit", 1, () -> x.told(0));
        Check.due("SOLID dims nothing", 1000000, () -> x.told(1));
        Check.due("SOLID turns nothing", 1, () -> x.told(2));
    }

    private static void kindsBounds() {
        Check.sentence("0 SOLID, 1 MIRROR, 2 GLASS. Illegal argument");
        LightRays x = twoWalls();
        x.kind(0, 2, 300);
        for (int kind : new int[] {-1, 3, 4, Integer.MIN_VALUE, Integer.MAX_VALUE}) {
            Check.illegalArgument("kind " + kind, () -> x.kind(0, kind, 1));
        }
        Check.due("still GLASS", 2, () -> x.kind(0, 0, 0));
        Check.due("the least", 0, () -> x.kind(0, 2, 0));
        Check.due("the greatest", 2, () -> x.kind(0, 2, 0));
    }

    private static void sharesBounds() {
        Check.sentence("a SHARE (0 .. 1000). Illegal argument");
        LightRays x = twoWalls();
        x.kind(1, 2, 1000);
        for (int share : new int[] {0, 1, 999, 1000}) {
            Check.due("kind with share " + share, share == 0 ? 0 : 2, () -> x.kind(0, 2, share));
            x.ray(0, 0, 0, 1, 0, 0);
            Check.due("light by share " + share, share * 1000L, () -> x.told(1));
        }
        x.kind(0, 2, 700);
        for (int share : new int[] {-1, 1001, -1000, Integer.MIN_VALUE, Integer.MAX_VALUE}) {
            for (int kind = 0; kind < 3; kind++) {
                int k = kind;
                Check.illegalArgument("share " + share + " of kind " + kind, () -> x.kind(0, k, share));
            }
        }
        x.ray(0, 0, 0, 1, 0, 0);
        Check.due("the SHARE is as before", 700000, () -> x.told(1));
    }

    private static void noSuchBox() {
        Check.sentence("there is no such box (kind)");
        LightRays x = new LightRays(50);
        Check.illegalArgument("box 0 of none", () -> x.kind(0, 1, 1));
        x.box(10, -50, -50, 20, 50, 50);
        x.box(30, -50, -50, 40, 50, 50);
        // The last two times 3 wrap round to numbers that there are.
        for (int box : new int[] {-1, 2, 3, 19, 20, Integer.MIN_VALUE, Integer.MAX_VALUE, 1431655766, -1431655765}) {
            Check.illegalArgument("box " + box, () -> x.kind(box, 1, 1));
        }
        Check.due("the first box is as it was", 0, () -> x.kind(0, 0, 0));
        Check.due("the last box is as it was", 0, () -> x.kind(1, 0, 0));
    }
}
