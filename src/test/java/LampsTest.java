/** Promises 16 to 20: dim, cheap, moving, judge, share; none of them changes anything. */
public final class LampsTest {
    private static final int NONE = LampMoths.NONE;
    private static final Due DUE = new Due("LampsTest");

    public static void main(String[] args) {
        dims();
        cheaps();
        movings();
        judges();
        judgesRefused();
        shares();
        nothingChanges();
        DUE.end();
    }

    private static void dims() {
        LampMoths x = Due.streetOf("L19W050W450W842M20M81");
        DUE.is("dim of one that owes that", x.dim(0, 3), 0);
        DUE.is("dim of one that owes less", x.dim(0, 99), 0);
        DUE.is("dim of one that owes more", x.dim(0, 2), 1);
        DUE.is("dim to 0", x.dim(0, 0), 1);
        DUE.is("dim of a cat's window", x.dim(2, 9), 0);
        DUE.is("dim to a share of the cat's window", x.dim(2, 8), 3);
        DUE.is("dim to nothing", x.dim(2, 3), 4);
        DUE.is("dim(0, -1)", x.dim(0, -1), LampMoths.BAD);
        DUE.is("dim(0, 100)", x.dim(0, 100), LampMoths.BAD);
        DUE.is("dim(3, 0)", x.dim(3, 0), LampMoths.UNKNOWN);
        DUE.is("dim(-1, 0)", x.dim(-1, 0), LampMoths.UNKNOWN);
        DUE.is("UNKNOWN is told ahead of BAD", x.dim(3, 100), LampMoths.UNKNOWN);
        DUE.is("dim by nine turns", Due.streetOf("L19W090M00").dim(0, 5), 9);
        LampMoths dark = Due.streetOf("L19W000M00");
        DUE.is("dim of a dark one", dark.dim(0, 0), 0);
        LampMoths green = Due.streetOf("L19W041W340M01");
        DUE.is("dim of a green one", green.dim(0, 17), 1);
        DUE.is("dim of a green one to a share", green.dim(0, 9), 1);
        DUE.is("dim of a green one to nothing", green.dim(0, 8), 3);
    }

    private static void cheap(String text, int much, int row) {
        LampMoths x = Due.streetOf(text);
        DUE.is("cheap(false) in " + text, x.cheap(false), much);
        DUE.is("cheap(true) in " + text, x.cheap(true), row);
    }

    private static void cheaps() {
        cheap("L19", NONE, NONE);
        cheap("L19M00", NONE, NONE);
        cheap("L19W090", 0, 13);
        cheap("L19W050W150", 0, 106);
        cheap("L19W150W050", 0, 106);
        cheap("L19W050W250", 0, 133);
        cheap("L19W050W150M40", 0, 133);
        cheap("L19W000W100W200", 0, 1060);
        cheap("L19W000W100W200M60", 0, 1333);
        cheap("L19W000W100W200M80", 0, 1060);
        cheap("L19W050M00", 6, 13);
        cheap("L19W052M01M00", 12, 13);
        // A cat's window of 6 takes the big one from its neighbour, which reads by it.
        cheap("L19W050W152M01", 9, 106);
        cheap("L19W052W150M11", 9, 160);
        cheap("L19W500W400W300W200W100", 0, 106006);
    }

    private static void moving(String text, int which, int much) {
        LampMoths x = Due.streetOf(text);
        DUE.is("moving(0) in " + text, x.moving(0), which);
        DUE.is("moving(1) in " + text, x.moving(1), much);
        DUE.is("moving(2) in " + text, x.moving(2), LampMoths.BAD);
        DUE.is("moving(-1) in " + text, x.moving(-1), LampMoths.BAD);
    }

    private static void movings() {
        moving("L19", NONE, NONE);
        moving("L19M00", NONE, NONE);
        moving("L19W050", 1, 0);
        moving("L19W000W100", 2, 0);
        moving("L19W050M00", 5, 0);
        moving("L19W890M80", 0, 6);
        moving("L19W880M80", 0, 0);
        moving("L10W010M03", 1, 0);
        moving("L10W010M23", 1, 0);
        moving("L19W000W130M30", 16, 0);
        moving("L19W000W190M80", 2, 6);
        // By the fifth at 4 five share the big one: 18 by five is 3 each, cut, which is least.
        moving("L19W040W150W260W370W680M01", 44, 15);
    }

    private static void judge(int n, int row, int want) {
        LampMoths x = Due.streetOf("L14W080W310M20");
        String before = Due.seen(x);
        DUE.is("judge(" + n + ", " + row + ")", x.judge(n, row), want);
        DUE.holds("judge changes nothing", before.equals(Due.seen(x)));
    }

    private static void judges() {
        judge(1, 0, NONE);
        judge(4, 0, NONE);
        judge(1, 1, 0);
        judge(1, 9, 0);
        judge(2, 1, 1);
        judge(1, 10, NONE);
        judge(2, 1010, 1);
        judge(3, 102010, NONE);
        judge(1, 12, 0);
        judge(1, 19, 0);
        judge(1, 21, NONE);
        judge(2, 2121, 1);
        judge(3, 211121, NONE);
        judge(1, 22, 0);
        judge(1, 30, NONE);
        judge(1, 31, 0);
        judge(1, 32, NONE);
        judge(1, 33, 0);
        judge(2, 3031, NONE);
        judge(2, 3030, 1);
        judge(1, 44, 0);
        judge(1, 49, NONE);
        judge(1, 40, NONE);
        judge(2, 4949, 1);
        judge(2, 4044, NONE);
        judge(1, 50, 0);
        judge(1, 99, 0);
        judge(4, 99999999, 0);
        judge(4, 10303149, NONE);
        judge(4, 10303131, 3);
        judge(4, 10, NONE);
        judge(3, 1010, 2);
    }

    private static void judgesRefused() {
        judge(0, 0, LampMoths.BAD);
        judge(5, 0, LampMoths.BAD);
        judge(-1, 0, LampMoths.BAD);
        judge(Integer.MAX_VALUE, 0, LampMoths.BAD);
        judge(1, -1, LampMoths.BAD);
        judge(1, 100, LampMoths.BAD);
        judge(2, 10000, LampMoths.BAD);
        judge(2, 9999, 0);
        judge(3, 1000000, LampMoths.BAD);
        judge(3, 999999, 0);
        judge(4, 100000000, LampMoths.BAD);
        judge(4, Integer.MAX_VALUE, LampMoths.BAD);
        judge(4, Integer.MIN_VALUE, LampMoths.BAD);
    }

    private static void share(String text, int window, int above, int below) {
        LampMoths x = Due.streetOf(text);
        DUE.is("share above in " + text, x.share(window, true), above);
        DUE.is("share below in " + text, x.share(window, false), below);
    }

    private static void shares() {
        share("L19W050M20", 0, 6, 1);
        share("L19W050", 0, 0, 1);
        share("L19W000M00", 0, 0, 1);
        share("L19W050W450M20", 0, 3, 1);
        share("L19W052W450M20", 0, 1, 2);
        share("L19W052W450M20", 1, 7, 2);
        // A cat's window that takes a big one from all others makes all owe less.
        share("L19W092W150W250M01", 0, -3, 1);
        share("L19W092W150W250W350M01", 0, -9, 2);
        share("L19W092W150W250W350M01", 1, 9, 2);
        share("L19W040W150W260W370M00", 2, 1, 1);
        share("L19W040W150W260W370W480M00", 4, 1, 1);
        LampMoths x = Due.streetOf("L19W050W450M20");
        DUE.is("share(2, true)", x.share(2, true), LampMoths.UNKNOWN);
        DUE.is("share(-1, false)", x.share(-1, false), LampMoths.UNKNOWN);
    }

    private static void nothingChanges() {
        LampMoths x = Due.streetOf("L05W053W242W391W680M03M21M52M73M81");
        x.night();
        x.up(0);
        x.count(0, 1, 6);
        String before = Due.seen(x);
        x.dim(1, 0);
        x.cheap(true);
        x.moving(0);
        x.judge(4, 30481100);
        x.share(3, true);
        DUE.holds("questions change nothing", before.equals(Due.seen(x)));
    }
}
