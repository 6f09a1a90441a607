/** Promise 13: best. */
public final class Promise13BestTest {
    public static void main(String[] args) {
        columnAndRow();
        leastRowThenColumn();
        lastPoint();
        wrongNumbers();
        noRayComes();
        Check.end();
    }

    /** Light falls from above, by a hole of the roof above one point only. */
    private static LightRays roofWithAHole(int x, int y) {
        LightRays rays = new LightRays(50);
        rays.box(-50, -50, 10, 50, y - 1, 20);
        rays.box(-50, y + 1, 10, 50, 50, 20);
        rays.box(-50, -50, 10, x - 1, 50, 20);
        rays.box(x + 1, -50, 10, 50, 50, 20);
        rays.sky(0, 1000);
        rays.fan(0, 0, 1);
        return rays;
    }

    private static void columnAndRow() {
        LightRays x = roofWithAHole(6, -4);
        Check.due("column", 3, () -> x.best(0, -8, 0, 5, 4, 2, 0));
        Check.due("row", 2, () -> x.best(0, -8, 0, 5, 4, 2, 1));
        Check.due("column of 8", 7, () -> x.best(-29, -39, 3, 8, 8, 5, 0));
        Check.due("row of 8", 7, () -> x.best(-29, -39, 3, 8, 8, 5, 1));
        Check.due("a brighter point one column behind the field", 0, () -> x.best(0, -8, 0, 3, 4, 2, 0));
        Check.due("a brighter point one row behind the field", 0, () -> x.best(0, -8, 0, 5, 2, 2, 1));
        Check.due("above the roof all are alike", 0, () -> x.best(0, -8, 20, 5, 4, 2, 1));
    }

    private static void leastRowThenColumn() {
        LightRays x = roofWithAHole(6, -4);
        x.off(2, true);
        x.off(3, true);
        Check.due("a bright row: its least column", 0, () -> x.best(0, -8, 0, 5, 4, 2, 0));
        Check.due("a bright row", 2, () -> x.best(0, -8, 0, 5, 4, 2, 1));
        x.off(0, true);
        x.off(1, true);
        x.off(2, false);
        x.off(3, false);
        Check.due("a bright column", 3, () -> x.best(0, -8, 0, 5, 4, 2, 0));
        Check.due("a bright column: its least row", 0, () -> x.best(0, -8, 0, 5, 4, 2, 1));
        Check.due("all dark: column", 0, () -> x.best(10, 0, 0, 8, 8, 3, 0));
        Check.due("all dark: row", 0, () -> x.best(10, 0, 0, 8, 8, 3, 1));
        x.box(5, -9, 3, 7, -7, 4);
        Check.due("row before column", 1, () -> x.best(0, -8, 0, 5, 4, 2, 1));
        LightRays y = new LightRays(50);
        y.sky(0, 1);
        y.fan(0, 0, 1);
        y.box(-1, -1, 5, 1, 1, 6);
        Check.due("column 1 of row 0 is before column 0 of row 1", 1, () -> y.best(0, 0, 0, 2, 2, 3, 0));
        Check.due("row 0", 0, () -> y.best(0, 0, 0, 2, 2, 3, 1));
    }

    private static void lastPoint() {
        LightRays x = new LightRays(50);
        Check.due("last point at SIZE", 0, () -> x.best(-50, -20, 50, 2, 8, 10, 1));
        Check.due("last column at SIZE", 0, () -> x.best(-50, -50, -50, 2, 2, 100, 0));
        Check.illegalArgument("last column beyond", () -> x.best(-49, -50, -50, 2, 2, 100, 0));
        Check.illegalArgument("last row beyond", () -> x.best(-50, -49, -50, 2, 2, 100, 0));
        Check.illegalArgument("last row of 8 beyond", () -> x.best(0, -19, 0, 1, 8, 10, 0));
        Check.illegalArgument("first column beyond, last one not", () -> x.best(-51, 0, 0, 2, 1, 5, 0));
        Check.illegalArgument("first row beyond, last one not", () -> x.best(0, -51, 0, 1, 2, 5, 0));
        Check.due("one column may have any step", 0, () -> x.best(50, 50, 0, 1, 1, 100, 0));
        Check.due("columns and rows are not mixed", 0, () -> x.best(-50, 50, 0, 8, 1, 14, 0));
        Check.illegalArgument("rows beyond", () -> x.best(-50, 50, 0, 1, 8, 14, 0));
    }

    private static void wrongNumbers() {
        LightRays x = new LightRays(50);
        int[] good = {0, 0, 0, 1, 1, 1, 0};
        int[] least = {-50, -50, -50, 1, 1, 1, 0};
        int[] greatest = {50, 50, 50, 8, 8, 100, 1};
        for (int i = 0; i < 7; i++) {
            for (int number : new int[] {least[i] - 1, greatest[i] + 1, Integer.MIN_VALUE, Integer.MAX_VALUE}) {
                int[] a = good.clone();
                a[i] = number;
                Check.illegalArgument("number " + i + " is " + number,
                        () -> x.best(a[0], a[1], a[2], a[3], a[4], a[5], a[6]));
            }
        }
    }

    private static void noRayComes() {
        LightRays x = new LightRays(5);
        x.fan(1, 0, 0);
        x.best(0, 0, 0, 2, 2, 1, 0);
        Check.illegalState("best is no ray()", () -> x.told(0));
    }
}
