/** Promise 10: fan. */
public final class Promise10FanTest {
    public static void main(String[] args) {
        LightRays x = new LightRays(50);
        x.sky(0, 1);
        for (int i = 1; i <= 40; i++) {
            int n = i;
            Check.illegalArgument("no direction", () -> x.fan(0, 0, 0));
            Check.due("direction " + n, n, () -> x.fan(1, 2 * n, 0));
            Check.due("all of them are measured", n * 1000000L, () -> x.measure(0, 0, 0));
        }
        Check.illegalState("the 41st", () -> x.fan(1, 1, 1));
        Check.illegalArgument("a wrong 41st", () -> x.fan(0, 0, 0));
        Check.illegalArgument("a 41st beyond", () -> x.fan(0, 101, 0));
        Check.due("a call that throws changes nothing", 40, () -> x.noFan());
        Check.due("the same direction", 1, () -> x.fan(1, 1, 1));
        Check.due("the same direction again", 2, () -> x.fan(1, 1, 1));
        Check.due("counts twice", 2000000, () -> x.measure(0, 0, 0));
        wrongNumbers(x);
        Check.due("the greatest numbers", 3, () -> x.fan(100, 100, 100));
        Check.due("the least numbers", 4, () -> x.fan(-100, -100, -100));
        Check.end();
    }

    private static void wrongNumbers(LightRays x) {
        for (int i = 0; i < 3; i++) {
            for (int number : new int[] {-101, 101, Integer.MIN_VALUE, Integer.MAX_VALUE}) {
                int[] d = {1, 1, 1};
                d[i] = number;
                Check.illegalArgument("number " + i + " is " + number, () -> x.fan(d[0], d[1], d[2]));
            }
        }
    }
}
