/** Promise 11: noFan. */
public final class Promise11NoFanTest {
    public static void main(String[] args) {
        LightRays x = new LightRays(50);
        x.sky(0, 7);
        Check.due("empty at first", 0, () -> x.noFan());
        x.fan(1, 0, 0);
        x.fan(0, 1, 0);
        x.fan(0, 0, 1);
        Check.due("it had", 3, () -> x.noFan());
        Check.due("it is empty", 0, () -> x.noFan());
        Check.due("measure of an empty fan", 0, () -> x.measure(0, 0, 0));
        Check.due("the first direction again", 1, () -> x.fan(1, 0, 0));
        Check.due("only the new one counts", 7000000, () -> x.measure(0, 0, 0));
        for (int i = 2; i <= 40; i++) {
            x.fan(1, 0, 0);
        }
        Check.illegalState("full", () -> x.fan(1, 0, 0));
        Check.due("it had 40", 40, () -> x.noFan());
        Check.due("room again", 1, () -> x.fan(1, 0, 0));
        Check.due("the sky stays", 7, () -> x.sky(0, 7));
        Check.end();
    }
}
