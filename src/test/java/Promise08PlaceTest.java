/** Promise 8: place. */
public final class Promise08PlaceTest {
    public static void main(String[] args) {
        LightRays x = new LightRays(50);
        x.box(10, -50, -50, 20, 50, 50);
        x.box(-20, -50, -50, -10, 50, 50);
        x.kind(0, 1, 1000);
        x.kind(1, 1, 1000);
        wrongNumbers(x);
        Check.illegalArgument("place before a ray", () -> x.place(0, 0, 0));
        x.ray(0, 1, -2, 12, 2, -3);
        due(x, 0, 10, 1, 8, 3, -9, 2);
        due(x, 1, -10, 1, 6, 1, -19, 2);
        int hits = x.told(0);
        Check.due("it has places of all its hits", 1, () -> x.place(hits - 1, 0, 1));
        Check.illegalArgument("no such hit", () -> x.place(hits, 0, 0));
        Check.illegalArgument("no such hit, below", () -> x.place(hits, 0, 1));
        wrongNumbers(x);
        x.off(1, true);
        x.measure(0, 0, 0);
        due(x, 1, -10, 1, 6, 1, -19, 2);
        x.ray(0, -5, 5, 2, 1, -1);
        due(x, 0, 10, 1, 0, 1, 0, 1);
        Check.illegalArgument("an earlier ray's hit", () -> x.place(1, 0, 0));
        x.ray(0, 0, 0, -1, 0, 0);
        Check.illegalArgument("no hit at all", () -> x.place(0, 0, 0));
        Check.end();
    }

    private static void due(LightRays x, int k, int... wants) {
        for (int i = 0; i < wants.length; i++) {
            int axis = i / 2;
            int part = i % 2;
            Check.due("place " + k + ", " + axis + ", " + part, wants[i], () -> x.place(k, axis, part));
        }
    }

    private static void wrongNumbers(LightRays x) {
        for (int number : new int[] {-1, Integer.MIN_VALUE, Integer.MAX_VALUE, 30}) {
            Check.illegalArgument("place k " + number, () -> x.place(number, 0, 0));
        }
        for (int number : new int[] {-1, 3, Integer.MIN_VALUE, Integer.MAX_VALUE}) {
            Check.illegalArgument("place axis " + number, () -> x.place(0, number, 0));
        }
        for (int number : new int[] {-1, 2, Integer.MIN_VALUE, Integer.MAX_VALUE}) {
            Check.illegalArgument("place part " + number, () -> x.place(0, 0, number));
        }
    }
}
