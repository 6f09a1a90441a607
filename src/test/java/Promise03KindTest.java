/** Promise 3: kind. */
public final class Promise03KindTest {
    public static void main(String[] args) {
        LightRays x = new LightRays(50);
        x.box(10, -50, -50, 20, 50, 50);
        x.box(30, -50, -50, 40, 50, 50);
        answersWhatItHad(x);
        wrongNumbers(x);
        changesHowARayGoes(x);
        Check.end();
    }

    private static void answersWhatItHad(LightRays x) {
        Check.due("kind to MIRROR", 0, () -> x.kind(0, 1, 500));
        Check.due("kind to GLASS", 1, () -> x.kind(0, 2, 0));
        Check.due("kind to GLASS again", 2, () -> x.kind(0, 2, 1000));
        Check.due("kind to SOLID", 2, () -> x.kind(0, 0, 1));
        Check.due("kind of the other box", 0, () -> x.kind(1, 0, 1000));
        Check.due("kind of the first", 0, () -> x.kind(0, 2, 300));
    }

    private static void wrongNumbers(LightRays x) {
        Check.illegalArgument("box -1", () -> x.kind(-1, 1, 1));
        Check.illegalArgument("box 2", () -> x.kind(2, 1, 1));
        Check.illegalArgument("box 20", () -> x.kind(20, 1, 1));
        Check.illegalArgument("greatest box", () -> x.kind(Integer.MAX_VALUE, 1, 1));
        Check.illegalArgument("least box", () -> x.kind(Integer.MIN_VALUE, 1, 1));
        Check.illegalArgument("kind -1", () -> x.kind(0, -1, 1));
        Check.illegalArgument("kind 3", () -> x.kind(0, 3, 1));
        Check.illegalArgument("share -1", () -> x.kind(0, 1, -1));
        Check.illegalArgument("share 1001", () -> x.kind(0, 1, 1001));
        x.ray(0, 0, 0, 1, 0, 0);
        Check.due("a call that throws changes no share", 300000, () -> x.told(1));
        Check.due("a call that throws changes no kind", 2, () -> x.kind(0, 2, 300));
    }

    private static void changesHowARayGoes(LightRays x) {
        Check.due("GLASS, then SOLID", 1, () -> x.ray(0, 0, 0, 1, 0, 0));
        Check.due("two hits", 2, () -> x.told(0));
        x.kind(0, 1, 250);
        Check.due("MIRROR", 0, () -> x.ray(0, 0, 0, 1, 0, 0));
        Check.due("its light", 250000, () -> x.told(1));
        Check.due("turned", -1, () -> x.told(2));
        x.kind(0, 0, 250);
        Check.due("SOLID", 1, () -> x.ray(0, 0, 0, 1, 0, 0));
        Check.due("SOLID dims nothing", 1000000, () -> x.told(1));
        Check.due("SOLID turns nothing", 1, () -> x.told(2));
    }
}
