/** Promises 21 to 23: what is counted, and where the honey may lie. */
public final class HoneyTest {
    private static final int ANYWHERE = 1023;
    private static final Due DUE = new Due("HoneyTest");

    public static void main(String[] args) {
        counts();
        honeys();
        honeysAsAllIsNow();
        windowsThatAreGone();
        DUE.end();
    }

    private static void counts() {
        LampMoths x = Due.streetOf("L19W040W840M43");
        DUE.is("count(2, 0, 0)", x.count(2, 0, 0), LampMoths.UNKNOWN);
        DUE.is("count(-1, 0, 0)", x.count(-1, 0, 0), LampMoths.UNKNOWN);
        DUE.is("count(0, 3, 0)", x.count(0, 3, 0), LampMoths.BAD);
        DUE.is("count(0, -1, 0)", x.count(0, -1, 0), LampMoths.BAD);
        DUE.is("count(0, 0, 100)", x.count(0, 0, 100), LampMoths.BAD);
        DUE.is("count(0, 0, -1)", x.count(0, 0, -1), LampMoths.BAD);
        DUE.is("UNKNOWN is told ahead of BAD", x.count(2, 3, 0), LampMoths.UNKNOWN);
        DUE.is("nothing is counted", x.about(9), 0);
        for (int n = 1; n <= 6; n++) {
            DUE.is("count", x.count(n % 2, n % 3, n == 6 ? 99 : 0), n);
        }
        String before = Due.seen(x);
        DUE.is("count a seventh", x.count(0, 0, 0), LampMoths.FULL);
        DUE.is("BAD is told ahead of FULL", x.count(0, 3, 0), LampMoths.BAD);
        DUE.is("UNKNOWN is told ahead of FULL", x.count(2, 0, 0), LampMoths.UNKNOWN);
        DUE.holds("what is refused changes nothing", before.equals(Due.seen(x)));
        DUE.is("counted", x.about(9), 6);
        DUE.is("no acts", x.about(8), 0);
        DUE.is("forget", x.forget(), 6);
        DUE.is("forget nothing", x.forget(), 0);
        DUE.is("counted", x.about(9), 0);
        DUE.is("count anew", x.count(0, 0, 0), 1);
    }

    private static void honeys() {
        LampMoths x = Due.streetOf("L19W030W830M43");
        DUE.is("honeys, nothing counted", x.honeys(), ANYWHERE);
        x.count(0, 1, 6);
        DUE.is("it lies at 0", x.honeys(), 1);
        x.forget();
        DUE.is("forgotten", x.honeys(), ANYWHERE);
        x.count(1, 1, 6);
        DUE.is("it lies at 8", x.honeys(), 1 << 8);
        x.count(0, 1, 0);
        DUE.is("still at 8", x.honeys(), 1 << 8);
        x.count(0, 1, 6);
        DUE.is("it can lie nowhere", x.honeys(), 0);
        x.forget();
        x.count(0, 1, 0);
        x.count(1, 1, 0);
        DUE.is("neither at 0 nor at 8, maybe nowhere", x.honeys(), ANYWHERE - 1 - (1 << 8));
    }

    private static void honeysAsAllIsNow() {
        LampMoths x = Due.streetOf("L18W040W840M43");
        x.count(0, 0, 6);
        DUE.is("with a wind to lower places", x.honeys(), ANYWHERE - (1 << 8));
        x.count(0, 1, 0);
        DUE.is("and with none", x.honeys(), ANYWHERE - (1 << 8) - 1);
        x.move(3);
        x.blow(2);
        DUE.is("wind and honey of now are set aside", x.honeys(), ANYWHERE - (1 << 8) - 1);
        x.up(0);
        DUE.is("it burns more now", x.honeys(), 0);
        x.undo();
        DUE.is("it burns as before", x.honeys(), ANYWHERE - (1 << 8) - 1);
        DUE.is("honey is where it was", x.about(3), 3);
        DUE.is("the wind is what it was", x.about(2), 2);
        x.move(8);
        x.night();
        DUE.is("the moth sits elsewhere now", x.moth(0, 0), 5);
        DUE.is("so it is not drawn by window 0", x.honeys(), 0);
    }

    private static void windowsThatAreGone() {
        LampMoths x = Due.streetOf("L19W030W830M43");
        x.count(1, 1, 6);
        x.count(0, 1, 0);
        DUE.is("it lies at 8", x.honeys(), 1 << 8);
        Due.tell(x, "L19W030M43");
        x.street();
        DUE.is("counted stays", x.about(9), 2);
        DUE.is("window 1 is gone, window 0 is looked at", x.honeys(), ANYWHERE - 1);
        Due.tell(x, "L19M43");
        x.street();
        DUE.is("nothing is looked at", x.honeys(), ANYWHERE);
        Due.tell(x, "L19W030W830M43");
        x.street();
        DUE.is("all is looked at", x.honeys(), 1 << 8);
    }
}
