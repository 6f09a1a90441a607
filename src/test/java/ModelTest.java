import java.util.Random;

/** Long runs of calls, the same ones every time, each answer compared with the Model's. */
public final class ModelTest {
    private static final int[] WILD = {Integer.MIN_VALUE, Integer.MAX_VALUE, -1001, -101, -31, -2, -1, 8, 20, 30, 101, 1001};

    private final Random chance;
    private final int size;
    private final LightRays rays;
    private final Model model;
    private final String name;

    private ModelTest(int seed) {
        chance = new Random(seed);
        int[] sizes = {1, 2, 3, 4, 6, 10, 40, 1000};
        size = sizes[seed % sizes.length];
        rays = new LightRays(size);
        model = new Model(size);
        name = "run " + seed + ", size " + size + ", call ";
    }

    public static void main(String[] args) {
        int runs = args.length == 0 ? 1600 : Integer.parseInt(args[0]);
        for (int seed = 0; seed < runs; seed++) {
            new ModelTest(seed).run();
        }
        Check.end();
    }

    private void run() {
        int first = chance.nextInt(14);
        for (int i = 0; i < first; i++) {
            box();
        }
        for (int i = first; i < 120; i++) {
            call();
        }
    }

    private int any(int least, int greatest) {
        if (chance.nextInt(200) == 0) {
            return WILD[chance.nextInt(WILD.length)];
        }
        return least + chance.nextInt(greatest - least + 1);
    }

    private int spot() {
        return any(-size, size);
    }

    private int speed() {
        return chance.nextInt(3) == 0 ? any(-100, 100) : any(-3, 3);
    }

    private void same(String call, Check.Call due, Check.Call got) {
        Check.told(name + call, Check.outcome(due), Check.outcome(got));
    }

    private void call() {
        switch (chance.nextInt(16)) {
            case 0 -> box();
            case 1 -> off();
            case 2 -> sky();
            case 3, 4 -> fan();
            case 5 -> noFan();
            case 6 -> measure();
            case 7 -> best();
            case 8 -> kind(any(0, 19));
            default -> ray();
        }
    }

    private void box() {
        int[] c = new int[6];
        for (int axis = 0; axis < 3; axis++) {
            int one = spot();
            int other = spot();
            c[axis] = Math.min(one, other);
            c[axis + 3] = Math.max(one, other);
            if (one == other && size > 1) {
                c[axis] = -size;
            }
        }
        same("box", () -> model.box(c[0], c[1], c[2], c[3], c[4], c[5]), () -> rays.box(c[0], c[1], c[2], c[3], c[4], c[5]));
        kind(any(0, 19));
        kind(any(0, 9));
    }

    private void kind(int box) {
        int kind = chance.nextInt(8) == 0 ? any(0, 2) : any(1, 2);
        int share = chance.nextInt(3) == 0 ? any(0, 1000) : any(990, 1000);
        same("kind", () -> model.kind(box, kind, share), () -> rays.kind(box, kind, share));
    }

    private void off() {
        int box = any(0, 19);
        boolean is = chance.nextInt(3) == 0;
        same("off", () -> model.off(box, is), () -> rays.off(box, is) ? 1 : 0);
    }

    private void sky() {
        int octant = any(0, 7);
        int v = any(0, 1000);
        same("sky", () -> model.sky(octant, v), () -> rays.sky(octant, v));
    }

    private void fan() {
        int dx = speed();
        int dy = speed();
        int dz = speed();
        for (int i = chance.nextInt(4) == 0 ? 5 : 1; i > 0; i--) {
            int turn = i;
            same("fan", () -> model.fan(dx, dy, dz - turn), () -> rays.fan(dx, dy, dz - turn));
        }
    }

    private void noFan() {
        if (chance.nextInt(3) == 0) {
            same("noFan", () -> model.noFan(), () -> rays.noFan());
        }
    }

    private void measure() {
        int x = spot();
        int y = spot();
        int z = spot();
        same("measure " + x + " " + y + " " + z, () -> model.measure(x, y, z), () -> rays.measure(x, y, z));
    }

    private void best() {
        int x = spot();
        int y = spot();
        int z = spot();
        int columns = any(1, Math.min(8, 2 * size));
        int rows = any(1, 3);
        int step = any(1, Math.max(1, size / 8));
        int what = any(0, 1);
        same("best", () -> model.best(x, y, z, columns, rows, step, what),
                () -> rays.best(x, y, z, columns, rows, step, what));
    }

    private void ray() {
        int x = spot();
        int y = spot();
        int z = spot();
        int dx = speed();
        int dy = speed();
        int dz = speed();
        same("ray " + x + " " + y + " " + z + " " + dx + " " + dy + " " + dz,
                () -> model.ray(x, y, z, dx, dy, dz), () -> rays.ray(x, y, z, dx, dy, dz));
        for (int what = -1; what < 6; what++) {
            int w = what;
            same("told " + w, () -> model.told(w), () -> rays.told(w));
        }
        int last = (int) Long.parseLong(Check.outcome(() -> model.told(0)).replaceAll("[^0-9]+", "0"));
        for (int k = -1; k <= last; k++) {
            hit(k);
        }
    }

    private void hit(int k) {
        for (int what = -1; what < 5; what++) {
            int w = what;
            same("hit " + k + " " + w, () -> model.hit(k, w), () -> rays.hit(k, w));
        }
        for (int axis = -1; axis < 4; axis++) {
            int a = axis;
            for (int part = -1; part < 3; part++) {
                int p = part;
                same("place " + k + " " + a + " " + p, () -> model.place(k, a, p), () -> rays.place(k, a, p));
            }
        }
    }
}
