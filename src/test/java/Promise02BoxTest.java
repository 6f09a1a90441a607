/** Promise 2: box. */
public final class Promise02BoxTest {
    public static void main(String[] args) {
        numbersAsTheyCome();
        wrongCorners();
        firstSolidWithFullShare();
        Check.end();
    }

    private static void numbersAsTheyCome() {
        LightRays x = new LightRays(20);
        for (int i = 0; i < 20; i++) {
            int n = i;
            Check.illegalArgument("flat box before " + n, () -> x.box(n, 0, 0, n, 1, 1));
            Check.due("box " + n, n, () -> x.box(n - 10, 0, 0, n - 9, 1, 1));
        }
        Check.illegalState("the 21st box", () -> x.box(0, 0, 0, 1, 1, 1));
        Check.illegalArgument("a wrong 21st box", () -> x.box(0, 0, 0, 0, 1, 1));
        Check.illegalArgument("a 21st box beyond", () -> x.box(0, 0, 0, 21, 1, 1));
        Check.due("the 20th is there", 0, () -> x.kind(19, 1, 5));
        Check.illegalArgument("no 21st came", () -> x.kind(20, 1, 5));
        Check.due("a ray meets the 20th", 1, () -> x.kind(19, 0, 5));
        Check.due("a ray along all", 1, () -> x.ray(20, 0, 0, -20, 1, 1));
        Check.due("it met box", 19, () -> x.hit(0, 0));
    }

    private static void wrongCorners() {
        LightRays x = new LightRays(9);
        int[] good = {-9, -9, -9, 9, 9, 9};
        int[] wrong = {-10, 10, Integer.MIN_VALUE, Integer.MAX_VALUE};
        for (int i = 0; i < 6; i++) {
            for (int number : wrong) {
                int[] c = good.clone();
                c[i] = number;
                Check.illegalArgument("corner " + i + " is " + number, () -> x.box(c[0], c[1], c[2], c[3], c[4], c[5]));
            }
        }
        for (int axis = 0; axis < 3; axis++) {
            int[] flat = {0, 0, 0, 1, 1, 1};
            flat[axis] = 1;
            Check.illegalArgument("flat on " + axis, () -> x.box(flat[0], flat[1], flat[2], flat[3], flat[4], flat[5]));
            int[] turned = {0, 0, 0, 1, 1, 1};
            turned[axis] = 2;
            Check.illegalArgument("turned on " + axis,
                    () -> x.box(turned[0], turned[1], turned[2], turned[3], turned[4], turned[5]));
        }
        Check.due("no wrong one came", 0, () -> x.box(-9, -9, -9, 9, 9, 9));
    }

    private static void firstSolidWithFullShare() {
        LightRays x = new LightRays(9);
        x.box(1, -1, -1, 2, 1, 1);
        Check.due("SOLID at first", 1, () -> x.ray(0, 0, 0, 1, 0, 0));
        Check.due("kind at first", 0, () -> x.kind(0, 2, 1000));
        Check.due("off at first", false, x.off(0, false));
    }
}
