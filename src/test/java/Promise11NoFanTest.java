/** Promise 11: noFan. */
public final class Promise11NoFanTest {
    public static void main(String[] args) {
        howManyItHad();
        isEmpty();
        nothingElseChanges();
        Check.end();
    }

    private static void howManyItHad() {
        Check.sentence("how many directions it had");
        LightRays x = new LightRays(50);
        Check.due("empty at first", 0, () -> x.noFan());
        Check.due("still empty", 0, () -> x.noFan());
        for (int many : new int[] {1, 2, 3, 39, 40}) {
            for (int i = 0; i < many; i++) {
                x.fan(1, 0, 0);
            }
            Check.due("it had " + many, many, () -> x.noFan());
            Check.due("it has none now", 0, () -> x.noFan());
        }
    }

    private static void isEmpty() {
        Check.sentence("The FAN is empty");
        LightRays x = new LightRays(50);
        x.sky(0, 7);
        for (int i = 0; i < 40; i++) {
            x.fan(0, 1, 0);
        }
        Check.illegalState("full", () -> x.fan(1, 0, 0));
        x.noFan();
        Check.due("measure of an empty fan", 0, () -> x.measure(0, 0, 0));
        Check.due("best of an empty fan", 0, () -> x.best(0, 0, 0, 2, 2, 1, 1));
        Check.due("the first direction again", 1, () -> x.fan(1, 0, 0));
        Check.due("only the new one counts", 7000000, () -> x.measure(0, 0, 0));
    }

    private static void nothingElseChanges() {
        Check.sentence("The FAN is empty (and nothing else is changed)");
        LightRays x = new LightRays(50);
        x.box(1, -1, -1, 2, 1, 1);
        x.sky(5, 7);
        x.fan(1, 0, 0);
        x.ray(0, 0, 0, 1, 0, 0);
        x.noFan();
        Check.due("the latest ray stays", 1, () -> x.told(0));
        Check.due("the sky stays", 7, () -> x.sky(5, 7));
        Check.due("the boxes stay", 1, () -> x.box(1, -1, -1, 2, 1, 1));
    }
}
