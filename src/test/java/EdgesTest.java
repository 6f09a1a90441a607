/**
 * Every call with every mixture of numbers at the edges of their bounds, just beyond them and far beyond, on objects
 * of several sizes that hold nothing, something or all they can: each answer is compared with the Model's.
 */
public final class EdgesTest {
    interface Asked {
        void with(int[] numbers);
    }

    private static final int MOST_CALLS = 512;

    private final int size;
    private final int boxes;
    private final int directions;
    private LightRays rays;
    private Model model;
    private int calls;

    private EdgesTest(int size, int boxes, int directions) {
        this.size = size;
        this.boxes = boxes;
        this.directions = directions;
        makeAnew();
    }

    public static void main(String[] args) {
        new EdgesTest(1, 0, 0).run();
        new EdgesTest(40, 7, 3).run();
        new EdgesTest(1000, 20, 40).run();
        Check.end();
    }

    private void makeAnew() {
        rays = new LightRays(size);
        model = new Model(size);
        calls = 0;
        for (int i = 0; i < boxes; i++) {
            int at = i % 2 == 0 ? size / 2 : -size / 2 - 1;
            int n = i;
            same("box", () -> model.box(at, -size, -size, at + 1, size - n, size),
                    () -> rays.box(at, -size, -size, at + 1, size - n, size));
            same("kind", () -> model.kind(n, 1 + n % 2, 999), () -> rays.kind(n, 1 + n % 2, 999));
        }
        for (int i = 0; i < directions; i++) {
            int n = i;
            same("fan", () -> model.fan(n % 3 - 1, n % 5 - 2, 1), () -> rays.fan(n % 3 - 1, n % 5 - 2, 1));
        }
    }

    private void same(String call, Check.Call due, Check.Call got) {
        calls++;
        Check.told("size " + size + ", " + boxes + " boxes, " + directions + " directions: " + call,
                Check.outcome(due), Check.outcome(got));
    }

    private void ask(String call, int[] numbers, Check.Call due, Check.Call got) {
        StringBuilder text = new StringBuilder(call);
        for (int number : numbers) {
            text.append(' ').append(number);
        }
        same(text.toString(), due, got);
    }

    private static int[] edges(int least, int greatest) {
        return new int[] {least - 1, least, greatest, greatest + 1, Integer.MIN_VALUE, Integer.MAX_VALUE};
    }

    private void each(Asked asked, int[]... choices) {
        int many = 1;
        for (int[] choice : choices) {
            many *= choice.length;
        }
        for (int i = 0; i < many; i++) {
            int[] numbers = new int[choices.length];
            int rest = i;
            for (int k = 0; k < choices.length; k++) {
                numbers[k] = choices[k][rest % choices[k].length];
                rest /= choices[k].length;
            }
            if (calls > MOST_CALLS - 20) {
                makeAnew();
            }
            asked.with(numbers);
        }
    }

    private void run() {
        int[] spots = edges(-size, size);
        int[] speeds = edges(-100, 100);
        int[] flags = edges(0, 1);
        int[] sides = edges(1, 8);
        each(n -> ask("told", n, () -> model.told(n[0]), () -> rays.told(n[0])), edges(0, 4));
        each(n -> ask("hit", n, () -> model.hit(n[0], n[1]), () -> rays.hit(n[0], n[1])), edges(0, 29), edges(0, 3));
        each(this::place, edges(0, 29), edges(0, 2), flags);
        each(this::box, spots, spots, new int[] {-size, 0}, spots, spots, new int[] {0, size});
        each(n -> ask("kind", n, () -> model.kind(n[0], n[1], n[2]), () -> rays.kind(n[0], n[1], n[2])),
                edges(0, Math.max(0, boxes - 1)), edges(0, 2), edges(0, 1000));
        each(n -> ask("off", n, () -> model.off(n[0], n[1] == 1), () -> rays.off(n[0], n[1] == 1) ? 1 : 0),
                edges(0, Math.max(0, boxes - 1)), new int[] {0, 1, 0});
        each(this::ray, spots, spots, new int[] {0, size, size + 1}, speeds, new int[] {-101, 0, 100}, speeds);
        each(n -> ask("sky", n, () -> model.sky(n[0], n[1]), () -> rays.sky(n[0], n[1])), edges(0, 7), edges(0, 1000));
        each(n -> ask("fan", n, () -> model.fan(n[0], n[1], n[2]), () -> rays.fan(n[0], n[1], n[2])), speeds, speeds, speeds);
        each(n -> ask("measure", n, () -> model.measure(n[0], n[1], n[2]), () -> rays.measure(n[0], n[1], n[2])),
                spots, spots, spots);
        each(this::best, new int[] {-size - 1, -size, 0, size}, new int[] {-size, size, size + 1}, new int[] {0, size + 1},
                sides, sides, edges(1, 100), flags);
    }

    private void place(int[] n) {
        ask("place", n, () -> model.place(n[0], n[1], n[2]), () -> rays.place(n[0], n[1], n[2]));
    }

    private void box(int[] n) {
        ask("box", n, () -> model.box(n[0], n[1], n[2], n[3], n[4], n[5]), () -> rays.box(n[0], n[1], n[2], n[3], n[4], n[5]));
    }

    private void ray(int[] n) {
        ask("ray", n, () -> model.ray(n[0], n[1], n[2], n[3], n[4], n[5]), () -> rays.ray(n[0], n[1], n[2], n[3], n[4], n[5]));
        for (int what = 0; what < 5; what++) {
            int w = what;
            same("told " + w, () -> model.told(w), () -> rays.told(w));
        }
        for (int k : new int[] {0, 1, 29}) {
            same("hit " + k, () -> model.hit(k, 2), () -> rays.hit(k, 2));
            same("place " + k, () -> model.place(k, 2, 0), () -> rays.place(k, 2, 0));
        }
    }

    private void best(int[] n) {
        ask("best", n, () -> model.best(n[0], n[1], n[2], n[3], n[4], n[5], n[6]),
                () -> rays.best(n[0], n[1], n[2], n[3], n[4], n[5], n[6]));
    }
}
