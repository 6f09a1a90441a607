import java.util.ArrayList;
import java.util.List;

/**
 * "In all calls illegal argument: ... a call that throws changes nothing": of two objects that are alike, one is asked
 * something that it refuses, and then both must give the same answers to everything that can be asked.
 */
public final class TermsRefusalsTest {
    interface Refused {
        long on(LightRays x);
    }

    private record Named(String name, Refused call) {
    }

    private static final int[] FAR = {Integer.MIN_VALUE, Integer.MAX_VALUE};

    public static void main(String[] args) {
        Check.sentence("a call that throws changes nothing (a new object)");
        changesNothing(0, anywhere(), withoutARay(), withoutBoxes());
        Check.sentence("a call that throws changes nothing (a ray, some boxes, some fan)");
        changesNothing(1, anywhere(), behindSomeBoxes());
        Check.sentence("a call that throws changes nothing (all is full)");
        changesNothing(2, anywhere(), whenFull());
        Check.end();
    }

    @SafeVarargs
    private static void changesNothing(int scene, List<Named>... lists) {
        for (List<Named> list : lists) {
            for (Named refused : list) {
                LightRays x = scene(scene);
                String answer = Check.outcome(() -> refused.call().on(x));
                Check.due(refused.name() + " is refused", true, answer.startsWith("throws.Illegal"));
                Check.told("all behind " + refused.name(), everything(scene(scene)), everything(x));
            }
        }
    }

    /** 0 a new object, 1 one with a ray that is on its way between boxes, 2 one with as much as it can hold. */
    private static LightRays scene(int scene) {
        LightRays x = new LightRays(40);
        int boxes = scene == 0 ? 0 : scene == 1 ? 4 : 20;
        for (int i = 0; i < boxes; i++) {
            int at = i % 2 == 0 ? 10 + i : -12 - i;
            x.box(at, -20, -30, at + 1, 20, 30);
            x.kind(i, i < 2 ? 1 : 2, 990 + i % 10);
        }
        int directions = scene == 0 ? 0 : scene == 1 ? 3 : 40;
        for (int i = 0; i < directions; i++) {
            x.fan(i % 5 - 2, i % 7 - 3, 1 + i);
        }
        if (scene != 0) {
            for (int octant = 0; octant < 8; octant++) {
                x.sky(octant, 100 + octant);
            }
            x.off(3, true);
            x.ray(1, 2, 3, 7, 1, -2);
        }
        return x;
    }

    /** Every answer that can be had, in fewer calls than an object is used for. */
    private static String everything(LightRays x) {
        StringBuilder all = new StringBuilder();
        for (int what = 0; what < 5; what++) {
            int w = what;
            add(all, () -> x.told(w));
        }
        for (int k = 0; k < 9; k++) {
            int hit = k;
            for (int what = 0; what < 4; what++) {
                int w = what;
                add(all, () -> x.hit(hit, w));
            }
            for (int i = 0; i < 6; i++) {
                int axis = i / 2;
                int part = i % 2;
                add(all, () -> x.place(hit, axis, part));
            }
        }
        for (int i = -2; i <= 2; i++) {
            int at = 9 * i;
            add(all, () -> x.measure(at, at, at));
            add(all, () -> x.best(at, 0, 0, 3, 3, 2, 0));
        }
        for (int octant = 0; octant < 8; octant++) {
            int o = octant;
            add(all, () -> x.sky(o, 1));
        }
        for (int box = 0; box <= 20; box++) {
            int b = box;
            add(all, () -> x.off(b, false) ? 1 : 0);
            add(all, () -> x.kind(b, 2, 1000));
        }
        add(all, () -> x.box(-40, -40, -40, 40, 40, 40));
        add(all, () -> x.fan(100, 100, 100));
        add(all, () -> x.noFan());
        return all.toString();
    }

    private static void add(StringBuilder all, Check.Call call) {
        all.append(Check.outcome(call)).append(' ');
    }

    private static int[] withFar(int... numbers) {
        int[] all = new int[numbers.length + FAR.length];
        System.arraycopy(numbers, 0, all, 0, numbers.length);
        System.arraycopy(FAR, 0, all, numbers.length, FAR.length);
        return all;
    }

    private static int[] with(int[] good, int i, int number) {
        int[] all = good.clone();
        all[i] = number;
        return all;
    }

    /** What is refused in every state, each number by itself too small and too large. */
    private static List<Named> anywhere() {
        List<Named> all = new ArrayList<>();
        for (int i = 0; i < 6; i++) {
            int bound = i < 3 ? 40 : 100;
            for (int number : withFar(-41, 41)) {
                int[] a = with(new int[] {-1, -1, -1, 1, 1, 1}, i, number);
                all.add(new Named("box " + i + " " + number, x -> x.box(a[0], a[1], a[2], a[3], a[4], a[5])));
            }
            for (int number : withFar(-bound - 1, bound + 1)) {
                int[] a = with(new int[] {1, 1, 1, 2, 2, 2}, i, number);
                all.add(new Named("ray " + i + " " + number, x -> x.ray(a[0], a[1], a[2], a[3], a[4], a[5])));
            }
        }
        for (int i = 0; i < 3; i++) {
            int[] flat = with(new int[] {-1, -1, -1}, i, 1);
            all.add(new Named("flat box " + i, x -> x.box(flat[0], flat[1], flat[2], 1, 1, 1)));
            for (int number : withFar(-101, 101)) {
                int[] d = with(new int[] {1, 1, 1}, i, number);
                all.add(new Named("fan " + i + " " + number, x -> x.fan(d[0], d[1], d[2])));
            }
            for (int number : withFar(-41, 41)) {
                int[] p = with(new int[] {1, 1, 1}, i, number);
                all.add(new Named("measure " + i + " " + number, x -> x.measure(p[0], p[1], p[2])));
            }
        }
        all.add(new Named("ray of all 0", x -> x.ray(1, 1, 1, 0, 0, 0)));
        all.add(new Named("fan of all 0", x -> x.fan(0, 0, 0)));
        all.addAll(smallNumbers());
        all.addAll(fields());
        return all;
    }

    private static List<Named> smallNumbers() {
        List<Named> all = new ArrayList<>();
        for (int number : withFar(-1, 20)) {
            all.add(new Named("kind of box " + number, x -> x.kind(number, 1, 1)));
            all.add(new Named("off of box " + number, x -> x.off(number, true) ? 1 : 0));
        }
        for (int number : withFar(-1, 3)) {
            all.add(new Named("kind " + number, x -> x.kind(0, number, 1)));
            all.add(new Named("place on axis " + number, x -> x.place(0, number, 0)));
        }
        for (int number : withFar(-1, 1001)) {
            all.add(new Named("share " + number, x -> x.kind(0, 1, number)));
            all.add(new Named("brightness " + number, x -> x.sky(0, number)));
        }
        for (int number : withFar(-1, 8)) {
            all.add(new Named("octant " + number, x -> x.sky(number, 1)));
        }
        for (int number : withFar(-1, 5)) {
            all.add(new Named("told " + number, x -> x.told(number)));
        }
        for (int number : withFar(-1, 4)) {
            all.add(new Named("hit, what " + number, x -> x.hit(0, number)));
        }
        for (int number : new int[] {-1, Integer.MIN_VALUE}) {
            all.add(new Named("hit " + number, x -> x.hit(number, 0)));
        }
        for (int number : withFar(-1, 30)) {
            all.add(new Named("place " + number, x -> x.place(number, 0, 0)));
        }
        for (int number : withFar(-1, 2)) {
            all.add(new Named("place, part " + number, x -> x.place(0, 0, number)));
        }
        return all;
    }

    private static List<Named> fields() {
        List<Named> all = new ArrayList<>();
        int[] least = {-40, -40, -40, 1, 1, 1, 0};
        int[] greatest = {40, 40, 40, 8, 8, 100, 1};
        for (int i = 0; i < 7; i++) {
            for (int number : withFar(least[i] - 1, greatest[i] + 1)) {
                int[] a = with(new int[] {0, 0, 0, 2, 2, 1, 0}, i, number);
                all.add(new Named("best " + i + " " + number, x -> x.best(a[0], a[1], a[2], a[3], a[4], a[5], a[6])));
            }
        }
        all.add(new Named("best, last column beyond", x -> x.best(34, 0, 0, 8, 1, 1, 0)));
        all.add(new Named("best, last row beyond", x -> x.best(0, 34, 0, 1, 8, 1, 0)));
        return all;
    }

    private static List<Named> withoutARay() {
        List<Named> all = new ArrayList<>();
        for (int what = 0; what < 5; what++) {
            int w = what;
            all.add(new Named("told " + w + " without a ray", x -> x.told(w)));
        }
        for (int what = 0; what < 4; what++) {
            int w = what;
            all.add(new Named("hit " + w + " without a ray", x -> x.hit(0, w)));
        }
        all.add(new Named("place without a ray", x -> x.place(0, 0, 0)));
        return all;
    }

    private static List<Named> withoutBoxes() {
        List<Named> all = new ArrayList<>();
        all.add(new Named("kind of box 0 of none", x -> x.kind(0, 1, 1)));
        all.add(new Named("off of box 0 of none", x -> x.off(0, true) ? 1 : 0));
        return all;
    }

    private static List<Named> behindSomeBoxes() {
        List<Named> all = new ArrayList<>();
        all.add(new Named("kind of box 4 of four", x -> x.kind(4, 1, 1)));
        all.add(new Named("off of box 4 of four", x -> x.off(4, true) ? 1 : 0));
        all.add(new Named("place behind the last hit", x -> x.place(x.told(0), 0, 0)));
        return all;
    }

    private static List<Named> whenFull() {
        List<Named> all = new ArrayList<>();
        all.add(new Named("the 21st box", x -> x.box(-1, -1, -1, 1, 1, 1)));
        all.add(new Named("the 41st direction", x -> x.fan(1, 1, 1)));
        return all;
    }
}
