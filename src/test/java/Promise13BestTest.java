/** Promise 13: best. */
public final class Promise13BestTest {
    public static void main(String[] args) {
        columnAndRow();
        fromTheFirstPointOn();
        atTheHeight();
        asFarApartAsStep();
        leastRowThenColumn();
        darkField();
        leastLight();
        columnsAndRowsBounds();
        stepsBounds();
        whatsBounds();
        pointsBounds();
        lastPointBeyond();
        wrapAround();
        noRayComes();
        Check.end();
    }

    /** Light falls from above, by a hole of the roof above one point only. */
    private static LightRays roofWithAHole(int x, int y) {
        LightRays rays = new LightRays(50);
        rays.box(-50, -50, 10, 50, y - 1, 20);
        rays.box(-50, y + 1, 10, 50, 50, 20);
        rays.box(-50, -50, 10, x - 1, 50, 20);
        rays.box(x + 1, -50, 10, 50, 50, 20);
        rays.sky(0, 1000);
        rays.fan(0, 0, 1);
        return rays;
    }

    private static void columnAndRow() {
        Check.sentence("what = 0 its column, 1 its row");
        LightRays x = roofWithAHole(6, -4);
        Check.due("column", 3, () -> x.best(0, -8, 0, 5, 4, 2, 0));
        Check.due("row", 2, () -> x.best(0, -8, 0, 5, 4, 2, 1));
        for (int column = 0; column < 8; column++) {
            for (int row = 0; row < 8; row++) {
                int c = column;
                int r = row;
                Check.due("column " + c, c, () -> x.best(6 - 5 * c, -4 - 5 * r, 3, 8, 8, 5, 0));
                Check.due("row " + r, r, () -> x.best(6 - 5 * c, -4 - 5 * r, 3, 8, 8, 5, 1));
            }
        }
    }

    private static void fromTheFirstPointOn() {
        Check.sentence("from (x, y) on, so many columns and rows");
        LightRays x = roofWithAHole(6, -4);
        Check.due("the bright one is the last column", 3, () -> x.best(0, -8, 0, 4, 4, 2, 0));
        Check.due("it is one column behind the field", 0, () -> x.best(0, -8, 0, 3, 4, 2, 0));
        Check.due("it is the last row", 2, () -> x.best(0, -8, 0, 5, 3, 2, 1));
        Check.due("it is one row behind the field", 0, () -> x.best(0, -8, 0, 5, 2, 2, 1));
        Check.due("it is one column before the field", 0, () -> x.best(8, -8, 0, 4, 4, 2, 1));
        Check.due("columns go along x", 2, () -> x.best(2, -4, 0, 8, 1, 2, 0));
        Check.due("rows go along y", 2, () -> x.best(6, -8, 0, 1, 8, 2, 1));
    }

    private static void atTheHeight() {
        Check.sentence("Of the points of a field at a height z");
        LightRays x = roofWithAHole(6, -4);
        Check.due("just below the roof", 2, () -> x.best(0, -8, 9, 5, 4, 2, 1));
        Check.due("in the roof", 2, () -> x.best(0, -8, 15, 5, 4, 2, 1));
        Check.due("on the roof all are alike", 0, () -> x.best(0, -8, 20, 5, 4, 2, 1));
        Check.due("at SIZE", 0, () -> x.best(0, -8, 50, 5, 4, 2, 1));
        Check.due("at -SIZE", 2, () -> x.best(0, -8, -50, 5, 4, 2, 1));
    }

    private static void asFarApartAsStep() {
        Check.sentence("as far apart as step");
        LightRays x = roofWithAHole(6, -4);
        Check.due("by 1, and the hole's edge is bright too", 5, () -> x.best(0, -4, 0, 8, 1, 1, 0));
        Check.due("by 2", 3, () -> x.best(0, -4, 0, 8, 1, 2, 0));
        Check.due("by 3", 2, () -> x.best(0, -4, 0, 8, 1, 3, 0));
        Check.due("by 6", 1, () -> x.best(0, -4, 0, 8, 1, 6, 0));
        LightRays y = roofWithAHole(48, 48);
        Check.due("by 96, column", 1, () -> y.best(-48, -48, 0, 2, 2, 96, 0));
        Check.due("by 96, row", 1, () -> y.best(-48, -48, 0, 2, 2, 96, 1));
    }

    private static void leastRowThenColumn() {
        Check.sentence("that with the greatest MEASURE; of several that of the least row, then column");
        LightRays x = roofWithAHole(6, -4);
        x.off(2, true);
        x.off(3, true);
        Check.due("a bright row: its least column", 0, () -> x.best(0, -8, 0, 5, 4, 2, 0));
        Check.due("a bright row", 2, () -> x.best(0, -8, 0, 5, 4, 2, 1));
        x.off(0, true);
        x.off(1, true);
        x.off(2, false);
        x.off(3, false);
        Check.due("a bright column", 3, () -> x.best(0, -8, 0, 5, 4, 2, 0));
        Check.due("a bright column: its least row", 0, () -> x.best(0, -8, 0, 5, 4, 2, 1));
        x.box(5, -9, 3, 7, -7, 4);
        Check.due("without its first point", 1, () -> x.best(0, -8, 0, 5, 4, 2, 1));
        LightRays y = new LightRays(50);
        y.sky(0, 1);
        y.fan(0, 0, 1);
        y.box(-1, -1, 5, 1, 1, 6);
        Check.due("column 1 of row 0 is before column 0 of row 1", 1, () -> y.best(0, 0, 0, 2, 2, 3, 0));
        Check.due("row 0", 0, () -> y.best(0, 0, 0, 2, 2, 3, 1));
        y.kind(0, 2, 999);
        Check.due("a little less light is less", 1, () -> y.best(0, 0, 0, 2, 2, 3, 0));
        y.kind(0, 2, 1000);
        Check.due("as much light is not", 0, () -> y.best(0, 0, 0, 2, 2, 3, 0));
    }

    private static void darkField() {
        Check.sentence("of several that of the least row, then column (all measures are 0)");
        LightRays x = new LightRays(50);
        for (int what = 0; what < 2; what++) {
            int w = what;
            Check.due("no fan", 0, () -> x.best(10, 0, 0, 8, 8, 3, w));
        }
        x.fan(0, 0, 1);
        for (int what = 0; what < 2; what++) {
            int w = what;
            Check.due("a dark sky", 0, () -> x.best(10, 0, 0, 8, 8, 3, w));
        }
    }

    /** Two panes leave a light of 1, and the sky has a brightness of 1. */
    private static void leastLight() {
        Check.sentence("that with the greatest MEASURE (1 among zeros)");
        LightRays x = roofWithAHole(6, -4);
        x.sky(0, 1);
        x.box(-50, -50, 2, 50, 50, 3);
        x.box(-50, -50, 4, 50, 50, 5);
        x.kind(4, 2, 1);
        x.kind(5, 2, 1);
        Check.due("its measure", 1, () -> x.measure(6, -4, 0));
        Check.due("another's", 0, () -> x.measure(4, -4, 0));
        Check.due("its column", 3, () -> x.best(0, -8, 0, 5, 4, 2, 0));
        Check.due("its row", 2, () -> x.best(0, -8, 0, 5, 4, 2, 1));
    }

    private static void refused(LightRays x, int argument, int... numbers) {
        for (int number : numbers) {
            int[] a = {0, 0, 0, 1, 1, 1, 0};
            a[argument] = number;
            Check.illegalArgument("argument " + argument + " is " + number,
                    () -> x.best(a[0], a[1], a[2], a[3], a[4], a[5], a[6]));
        }
    }

    private static void columnsAndRowsBounds() {
        Check.sentence("columns and rows (1 .. 8 each). Illegal argument");
        LightRays x = new LightRays(50);
        refused(x, 3, -1, 0, 9, 10, Integer.MIN_VALUE, Integer.MAX_VALUE);
        refused(x, 4, -1, 0, 9, 10, Integer.MIN_VALUE, Integer.MAX_VALUE);
        Check.due("the least", 0, () -> x.best(0, 0, 0, 1, 1, 1, 0));
        Check.due("the greatest", 0, () -> x.best(0, 0, 0, 8, 8, 1, 0));
    }

    private static void stepsBounds() {
        Check.sentence("step (1 .. 100). Illegal argument");
        LightRays x = new LightRays(500);
        refused(x, 5, -1, 0, 101, Integer.MIN_VALUE, Integer.MAX_VALUE);
        Check.illegalArgument("step 0 of many points", () -> x.best(0, 0, 0, 8, 8, 0, 0));
        Check.illegalArgument("step -1 of many points", () -> x.best(0, 0, 0, 8, 8, -1, 0));
        Check.illegalArgument("step 101 of two points", () -> x.best(0, 0, 0, 2, 1, 101, 0));
        Check.due("the least", 0, () -> x.best(0, 0, 0, 8, 8, 1, 0));
        Check.due("the greatest", 0, () -> x.best(-200, -200, 0, 8, 8, 100, 0));
    }

    private static void whatsBounds() {
        Check.sentence("Illegal argument (best, what)");
        LightRays x = new LightRays(50);
        refused(x, 6, -1, 2, 3, Integer.MIN_VALUE, Integer.MAX_VALUE);
    }

    private static void pointsBounds() {
        Check.sentence("Illegal argument (best, its first point)");
        LightRays x = new LightRays(50);
        for (int axis = 0; axis < 3; axis++) {
            refused(x, axis, -51, 51, Integer.MIN_VALUE, Integer.MAX_VALUE);
        }
        Check.illegalArgument("the first column beyond, the last one not", () -> x.best(-51, 0, 0, 2, 1, 5, 0));
        Check.illegalArgument("the first row beyond, the last one not", () -> x.best(0, -51, 0, 1, 2, 5, 0));
    }

    private static void lastPointBeyond() {
        Check.sentence("Illegal argument: also if the last point is beyond SIZE");
        LightRays x = new LightRays(50);
        Check.due("the last row at SIZE", 0, () -> x.best(-50, -20, 50, 2, 8, 10, 1));
        Check.illegalArgument("the last row of 8 beyond", () -> x.best(0, -19, 0, 1, 8, 10, 0));
        Check.due("the last column at SIZE", 0, () -> x.best(-20, 0, 0, 8, 1, 10, 0));
        Check.illegalArgument("the last column of 8 beyond", () -> x.best(-19, 0, 0, 8, 1, 10, 0));
        Check.due("both at SIZE", 0, () -> x.best(-50, -50, -50, 2, 2, 100, 0));
        Check.illegalArgument("the last column beyond", () -> x.best(-49, -50, -50, 2, 2, 100, 0));
        Check.illegalArgument("the last row beyond", () -> x.best(-50, -49, -50, 2, 2, 100, 0));
        Check.due("one column may have any step", 0, () -> x.best(50, 50, 0, 1, 1, 100, 0));
        Check.due("many columns, one row", 0, () -> x.best(-50, 50, 0, 8, 1, 14, 0));
        Check.illegalArgument("one column, many rows", () -> x.best(-50, 50, 0, 1, 8, 14, 0));
        Check.due("many rows, one column", 0, () -> x.best(50, -50, 0, 1, 8, 14, 0));
        Check.illegalArgument("one row, many columns", () -> x.best(50, -50, 0, 8, 1, 14, 0));
        LightRays small = new LightRays(1);
        Check.due("SIZE 1", 0, () -> small.best(-1, -1, 0, 3, 3, 1, 0));
        Check.illegalArgument("SIZE 1, four columns", () -> small.best(-1, -1, 0, 4, 3, 1, 0));
    }

    /** Steps and columns whose product wraps round to a small number, so that the last point seems near. */
    private static void wrapAround() {
        Check.sentence("Illegal argument: a number is out of its bounds (a product that wraps round)");
        LightRays x = new LightRays(50);
        Check.illegalArgument("7 steps are 3", () -> x.best(0, 0, 0, 8, 8, 613566757, 0));
        Check.illegalArgument("2 steps are 0", () -> x.best(0, 0, 0, 3, 3, Integer.MIN_VALUE, 0));
        Check.illegalArgument("4 steps are 0", () -> x.best(0, 0, 0, 5, 5, 1 << 30, 0));
        Check.illegalArgument("columns of 64 are 0", () -> x.best(0, 0, 0, (1 << 26) + 1, 1, 64, 0));
        Check.illegalArgument("rows of 64 are 0", () -> x.best(0, 0, 0, 1, (1 << 26) + 1, 64, 0));
        Check.illegalArgument("x wraps round", () -> x.best(Integer.MAX_VALUE - 9, 0, 0, 2, 1, 50, 0));
    }

    private static void noRayComes() {
        Check.sentence("Of the latest ray() (best is none)");
        LightRays x = new LightRays(5);
        x.fan(1, 0, 0);
        x.best(0, 0, 0, 2, 2, 1, 0);
        Check.illegalState("told", () -> x.told(0));
        Check.illegalState("hit", () -> x.hit(0, 0));
        Check.illegalArgument("place", () -> x.place(0, 0, 0));
    }
}
