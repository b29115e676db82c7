/** The boundary cases of promises 16 to 20: dim, cheap, moving, judge, share. */
public final class EdgeLampsTest {
    private static final int NONE = LampMoths.NONE;
    private static final Due DUE = new Due("EdgeLampsTest");

    public static void main(String[] args) {
        dimBounds();
        dimUnknownAheadOfBad();
        dimTurns();
        dimNoMoreThan();
        dimIsTheFewest();
        cheapNone();
        cheapRows();
        cheapLeastAsNumber();
        movingBad();
        movingNone();
        movingFirst();
        movingLast();
        judgeDoings();
        judgeFigures();
        judgeNight();
        judgeTurned();
        judgeBlown();
        judgeMoved();
        judgeEachBehindTheOther();
        shareUnknown();
        shareOfOne();
        shareLessThanZero();
        shareInLeastTerms();
        nothingIsChanged();
        asTheStreetIsNow();
        DUE.end();
    }

    // ---- promise 16

    private static void dimBounds() {
        DUE.sentence("DIM for a WINDOW and t (0 .. 99)");
        for (int t : Edges.INTS) {
            if (Edges.isIn(t, 0, 99)) {
                DUE.is("dim(0, " + t + ")", Due.streetOf("L19W050M00").dim(0, t), t < 6 ? 5 : 0);
            } else {
                for (int window = 0; window < 5; window++) {
                    int which = window;
                    Edges.leaves(DUE, "dim(" + window + ", " + t + ")", Edges::busy, x -> x.dim(which, t), LampMoths.BAD);
                }
                Edges.leaves(DUE, "full dim(1, " + t + ")", Edges::brim, x -> x.dim(1, t), LampMoths.BAD);
            }
        }
    }

    private static void dimUnknownAheadOfBad() {
        DUE.sentence("DIM; NONE. UNKNOWN; BAD: t.");
        for (int window : Edges.INTS) {
            for (int t : Edges.INTS) {
                if (!Edges.isIn(window, 0, 4)) {
                    Edges.leavesAll(DUE, "dim(" + window + ", " + t + ")", x -> x.dim(window, t), LampMoths.UNKNOWN);
                }
            }
        }
        Edges.leaves(DUE, "dim(2, 0) of two", Edges::brim, x -> x.dim(2, 0), LampMoths.UNKNOWN);
        Edges.leaves(DUE, "dim(0, 0) of none", Edges::fresh, x -> x.dim(0, 0), LampMoths.UNKNOWN);
    }

    private static void dimTurns() {
        DUE.sentence("the fewest times (0 .. 9) it is TURNED");
        for (int burns = 0; burns <= 9; burns++) {
            for (int seat = 0; seat <= 8; seat++) {
                LampMoths x = Due.streetOf("L19W0" + burns + "0M" + seat + "0");
                DUE.is("dim(0, 5)", x.dim(0, 5), Math.max(0, burns - seat));
                DUE.is("dim(0, 6)", x.dim(0, 6), 0);
            }
        }
        DUE.is("no moths", Due.streetOf("L19W090").dim(0, 0), 0);
        DUE.is("nothing owed", Due.streetOf("L19W090M02").dim(0, 0), 0);
    }

    private static void dimNoMoreThan() {
        DUE.sentence("by which it owes no more than t");
        // Window 0 owes 5 times 18 and half of 18; a turn down leaves the sixth moth to window 1.
        LampMoths x = Due.streetOf("L19W090W890M01M01M01M01M01M41");
        DUE.is("it owes", x.window(0, 3), 99);
        DUE.is("dim(0, 99)", x.dim(0, 99), 0);
        DUE.is("dim(0, 98)", x.dim(0, 98), 1);
        DUE.is("dim(0, 90)", x.dim(0, 90), 1);
        DUE.is("dim(0, 89)", x.dim(0, 89), 8);
        DUE.is("dim(0, 45)", x.dim(0, 45), 8);
        DUE.is("dim(0, 44)", x.dim(0, 44), 9);
        DUE.is("dim(0, 0)", x.dim(0, 0), 9);
        // 108 is more than any t.
        DUE.is("the most, one far off", Due.streetOf("L19W090M01M01M01M01M01M81").dim(0, 99), 1);
        DUE.is("the most, all there", Due.streetOf("L19W090M01M01M01M01M01M01").dim(0, 99), 9);
        DUE.is("a cat's half of the most", Due.streetOf("L19W092M01M01M01M01M01M01").dim(0, 54), 0);
        DUE.is("less than that", Due.streetOf("L19W092M01M01M01M01M01M01").dim(0, 53), 9);
    }

    private static boolean owesMore(String text, int window, int turns, int t) {
        LampMoths x = Due.streetOf(text);
        for (int turn = 0; turn < Math.abs(turns); turn++) {
            if ((turns < 0 ? x.down(window) : x.up(window)) < 0) {
                return true;
            }
        }
        return x.window(window, 3) > t;
    }

    private static void dimIsTheFewest() {
        DUE.sentence("always down or always up, by which it owes no more than t (of like many down): how many, 10 more "
                + "if it is up; NONE.");
        String[] texts = {Edges.LONGEST, "L05W081W272W493W660W852M13M31M50M63M71M00", "L28W851W562W290M81M73M20M33"};
        for (String text : texts) {
            int windows = Due.streetOf(text).about(0);
            for (int window = 0; window < windows; window++) {
                for (int t = 0; t <= 20; t++) {
                    int turns = Due.streetOf(text).dim(window, t);
                    String call = "dim(" + window + ", " + t + ") in " + text;
                    DUE.holds(call + " is 0 .. 9: " + turns, Edges.isIn(turns, 0, 9));
                    DUE.holds(call + " is enough", !owesMore(text, window, -turns, t));
                    for (int fewer = 0; fewer < turns; fewer++) {
                        DUE.holds(call + " is the fewest down", owesMore(text, window, -fewer, t));
                        DUE.holds(call + " is the fewest up", owesMore(text, window, fewer, t));
                    }
                }
            }
        }
    }

    // ---- promise 17

    private static void cheap(String text, int much, int row) {
        Edges.leaves(DUE, "cheap(false) in " + text, () -> Due.streetOf(text), x -> x.cheap(false), much);
        Edges.leaves(DUE, "cheap(true) in " + text, () -> Due.streetOf(text), x -> x.cheap(true), row);
    }

    private static void cheapNone() {
        DUE.sentence("how much; the row; NONE: there are no WINDOWS.");
        cheap("L19", NONE, NONE);
        cheap("L00" + Edges.SIX_MOTHS, NONE, NONE);
        Edges.leaves(DUE, "new cheap(false)", Edges::fresh, x -> x.cheap(false), NONE);
        Edges.leaves(DUE, "new cheap(true)", Edges::fresh, x -> x.cheap(true), NONE);
    }

    private static void cheapRows() {
        DUE.sentence("CHEAP: of all rows that WINDOWS may burn (0, 3 or 6 each, as figures, WINDOW by WINDOW, behind a 1) "
                + "by which all READ");
        cheap("L19W090", 0, 13);
        cheap("L19W000W200", 0, 133);
        cheap("L19W000W200W400", 0, 1333);
        cheap("L19W000W200W400W600", 0, 13333);
        cheap("L19W000W200W400W600W800", 0, 133333);
        // 6 moths that weigh 18 come to any window that burns where they sit.
        cheap("L19W000M01M01M01M01M01M01", 108, 13);
        cheap("L19W002M01M01M01M01M01M01", 54, 13);
        // The cat's window has all, and only if it burns 6 do both others read without a light.
        cheap("L19W000W102W200M01M01M01", 27, 1060);
        cheap("L19W102W000W200M01M01M01", 27, 1600);
    }

    private static void cheapLeastAsNumber() {
        DUE.sentence("of like ones the least as a number");
        cheap("L19W000W100", 0, 106);
        cheap("L19W100W000", 0, 106);
        cheap("L19W000W100W200", 0, 1060);
        cheap("L19W100W000W200", 0, 1036);
        cheap("L19W000W100W200W300", 0, 10603);
        cheap("L19W000W100W200W300W400", 0, 106006);
    }

    // ---- promise 18

    private static void moving(String text, int which, int much) {
        Edges.leaves(DUE, "moving(0) in " + text, () -> Due.streetOf(text), x -> x.moving(0), which);
        Edges.leaves(DUE, "moving(1) in " + text, () -> Due.streetOf(text), x -> x.moving(1), much);
    }

    private static void movingBad() {
        DUE.sentence("MOVING: which (what = 0), how much (1); NONE. BAD.");
        for (int what : Edges.INTS) {
            if (!Edges.isIn(what, 0, 1)) {
                Edges.leavesAll(DUE, "moving(" + what + ")", x -> x.moving(what), LampMoths.BAD);
            }
        }
    }

    private static void movingNone() {
        DUE.sentence("which; how much; NONE: there are none.");
        moving("L19", NONE, NONE);
        moving("L19" + Edges.SIX_MOTHS, NONE, NONE);
        Edges.leaves(DUE, "new moving(0)", Edges::fresh, x -> x.moving(0), NONE);
        Edges.leaves(DUE, "new moving(1)", Edges::fresh, x -> x.moving(1), NONE);
    }

    private static void movingFirst() {
        DUE.sentence("of like ones the first (WINDOW, then PLACE; told as 10 times WINDOW and PLACE)");
        moving("L19W000", 1, 0);
        moving("L19W800", 0, 0);
        moving("L19W000W100W200W300W400", 5, 0);
        moving("L19W800W700W600W500W400", 0, 0);
        // To stay is no way: wherever it goes it draws the moth at its old place.
        moving("L19W490M41", 0, 18);
        moving("L19W090M01", 1, 18);
        moving("L19W080M01", 8, 0);
    }

    private static void movingLast() {
        DUE.sentence("of all WINDOWS and PLACES (0 .. 8) where no WINDOW is that by which, if it stood there, all owe least "
                + "together");
        // The last window draws the moth from everywhere but the last place, and from everywhere but the first.
        moving("L19W000W100W200W300W440M40", 48, 0);
        moving("L19W800W700W600W500W440M40", 40, 0);
        // Window 1 beside the silk moth alone owes nothing, if window 0 is still where it draws nothing.
        moving("L19W010W810W100W200W300M80M40M50M62M70", 16, 0);
        // It would be least at 8, or at 0, but there another window is.
        moving("L19W080W800M01", 1, 18);
        moving("L19W880W000M81", 1, 18);
    }

    // ---- promise 19

    private static LampMoths full(int burns) {
        return Due.streetOf("L14W0" + burns + "0W2" + burns + "0W4" + burns + "0W6" + burns + "0W8" + burns + "0M33");
    }

    private static void judge(int n, int row, int want) {
        Edges.leaves(DUE, "judge(" + n + ", " + row + ")", () -> full(5), x -> x.judge(n, row), want);
    }

    private static void judgeDoings() {
        DUE.sentence("JUDGED: n doings (1 .. 4)");
        for (int n : Edges.INTS) {
            for (int row : Edges.INTS) {
                if (!Edges.isIn(n, 1, 4)) {
                    Edges.leavesAll(DUE, "judge(" + n + ", " + row + ")", x -> x.judge(n, row), LampMoths.BAD);
                }
            }
        }
        for (int n = 1; n <= 4; n++) {
            judge(n, 0, NONE);
        }
    }

    private static void judgeFigures() {
        DUE.sentence("BAD: n, row (0 or more, 2 n figures at most).");
        int beyond = 1;
        for (int n = 1; n <= 4; n++) {
            beyond *= 100;
            int doings = n;
            int more = beyond;
            for (int row : new int[] {-1, -100, Integer.MIN_VALUE, Integer.MAX_VALUE, beyond, beyond + 1}) {
                Edges.leavesAll(DUE, "judge(" + n + ", " + row + ")", x -> x.judge(doings, row), LampMoths.BAD);
            }
            Edges.leavesAll(DUE, "judge(" + n + ", " + (more - 1) + ")", x -> x.judge(doings, more - 1), 0);
            Edges.leavesAll(DUE, "judge(" + n + ", 0)", x -> x.judge(doings, 0), NONE);
            Edges.leavesAll(DUE, "judge(" + n + ", 1)", x -> x.judge(doings, 1), n - 1);
            // Ten times as much as there is room for is no row, though its last figures are one.
            Edges.leavesAll(DUE, "judge(" + n + ", " + 10 * more + ")", x -> x.judge(doings, 10 * more), LampMoths.BAD);
        }
    }

    private static void judgeNight() {
        DUE.sentence("(0 and 0: A NIGHT;");
        judge(1, 0, NONE);
        for (int figure = 1; figure <= 9; figure++) {
            judge(1, figure, 0);
            judge(4, figure, 3);
            judge(4, 1000000 * figure, 0);
        }
        for (int doing = 50; doing <= 99; doing++) {
            judge(1, doing, 0);
            judge(2, doing, 1);
        }
    }

    private static void judgeTurned() {
        DUE.sentence("1 and a WINDOW: TURNED up; 2 and a WINDOW: down;");
        for (int figure = 0; figure <= 9; figure++) {
            int which = figure;
            judge(1, 10 + figure, figure < 5 ? NONE : 0);
            judge(1, 20 + figure, figure < 5 ? NONE : 0);
            Edges.leaves(DUE, "up from 9: " + figure, () -> full(9), x -> x.judge(1, 10 + which), 0);
            Edges.leaves(DUE, "down from 0: " + figure, () -> full(0), x -> x.judge(1, 20 + which), 0);
            int can = figure < 5 ? NONE : 0;
            Edges.leaves(DUE, "up from 8: " + figure, () -> full(8), x -> x.judge(1, 10 + which), can);
            Edges.leaves(DUE, "down from 1: " + figure, () -> full(1), x -> x.judge(1, 20 + which), can);
            Edges.leaves(DUE, "up of two: " + figure, Edges::brim, x -> x.judge(1, 10 + which), figure == 1 ? NONE : 0);
            Edges.leaves(DUE, "down of two: " + figure, Edges::brim, x -> x.judge(1, 20 + which), figure == 0 ? NONE : 0);
            Edges.leaves(DUE, "up of none: " + figure, Edges::fresh, x -> x.judge(1, 10 + which), 0);
            Edges.leaves(DUE, "down of none: " + figure, Edges::fresh, x -> x.judge(1, 20 + which), 0);
        }
    }

    private static void judgeBlown() {
        DUE.sentence("3 and a WIND: BLOWN;");
        for (int wind = 0; wind <= 2; wind++) {
            String text = "L" + wind + "9W000";
            for (int figure = 0; figure <= 9; figure++) {
                int next = figure;
                Edges.leaves(DUE, "judge(1, 3" + figure + ") in " + text, () -> Due.streetOf(text),
                        x -> x.judge(1, 30 + next), figure <= 2 && figure != wind ? NONE : 0);
            }
        }
    }

    private static void judgeMoved() {
        DUE.sentence("4 and a PLACE, or 9: MOVED)");
        for (int honey = 0; honey <= 9; honey++) {
            String text = "L1" + honey + "W000";
            for (int figure = 0; figure <= 9; figure++) {
                int next = figure;
                Edges.leaves(DUE, "judge(1, 4" + figure + ") in " + text, () -> Due.streetOf(text),
                        x -> x.judge(1, 40 + next), figure != honey ? NONE : 0);
            }
        }
    }

    private static void judgeEachBehindTheOther() {
        DUE.sentence("the place of the first that can not be; NONE: none.");
        Edges.Made eight = () -> full(8);
        Edges.leaves(DUE, "up twice from 8", eight, x -> x.judge(2, 1414), 1);
        Edges.leaves(DUE, "up, down, up from 8", eight, x -> x.judge(3, 142414), NONE);
        Edges.leaves(DUE, "up, down, up, up from 8", eight, x -> x.judge(4, 14241414), 3);
        Edges.leaves(DUE, "four kinds can be", eight, x -> x.judge(4, 143049), NONE);
        Edges.leaves(DUE, "honey that is there", eight, x -> x.judge(4, 144431), 2);
        Edges.leaves(DUE, "all of them", eight, x -> x.judge(4, 99999999), 0);
        Edges.Made one = () -> full(1);
        Edges.leaves(DUE, "down twice from 1", one, x -> x.judge(2, 2020), 1);
        Edges.leaves(DUE, "down, up, down from 1", one, x -> x.judge(3, 201020), NONE);
        Edges.leaves(DUE, "the wind to and fro", one, x -> x.judge(4, 30313231), NONE);
        Edges.leaves(DUE, "the wind twice", one, x -> x.judge(4, 30313232), 3);
        Edges.leaves(DUE, "honey to and fro", one, x -> x.judge(4, 49444944), NONE);
        Edges.leaves(DUE, "honey twice", one, x -> x.judge(3, 494444), 2);
        Edges.leaves(DUE, "fourteen acts are no bound", Edges::brim, x -> x.judge(4, 20202020), NONE);
    }

    // ---- promise 20

    private static void shareUnknown() {
        DUE.sentence("SHARE. UNKNOWN.");
        for (int window : Edges.INTS) {
            if (!Edges.isIn(window, 0, 4)) {
                Edges.leavesAll(DUE, "share(" + window + ", true)", x -> x.share(window, true), LampMoths.UNKNOWN);
                Edges.leavesAll(DUE, "share(" + window + ", false)", x -> x.share(window, false), LampMoths.UNKNOWN);
            }
        }
        Edges.leaves(DUE, "share(2, true) of two", Edges::brim, x -> x.share(2, true), LampMoths.UNKNOWN);
        Edges.leaves(DUE, "share(0, true) of none", Edges::fresh, x -> x.share(0, true), LampMoths.UNKNOWN);
    }

    private static void share(String text, int window, int above, int below) {
        Edges.leaves(DUE, "share above in " + text, () -> Due.streetOf(text), x -> x.share(window, true), above);
        Edges.leaves(DUE, "share below in " + text, () -> Due.streetOf(text), x -> x.share(window, false), below);
    }

    private static void shareOfOne() {
        DUE.sentence("if WINDOWS come one by one, in each order as likely (others do not burn)");
        share("L19W090", 0, 0, 1);
        share("L19W000M01", 0, 0, 1);
        share("L19W090M01", 0, 18, 1);
        share("L19W092M01M01M01M01M01M01", 0, 54, 1);
        share("L19W090M01M01M01M01M01M01", 0, 108, 1);
        share("L19W090W100W200W300W400M01", 0, 18, 1);
        share("L19W090W100W200W300W400M01", 4, 0, 1);
        // Five that can each have the moth: whoever comes first makes all owe 18.
        share("L19W090W180W270W360W450M01", 0, 18, 5);
        share("L19W090W180W270W360W450M01", 4, 18, 5);
    }

    private static void shareLessThanZero() {
        DUE.sentence("FRACTIONS are told above (upper = true; less than 0, if they are), below, in least terms.");
        // With the cat's window all owe 9, without it 18: 9 if it comes first, else 9 less.
        share("L19W092W150M01", 0, 0, 1);
        share("L19W092W150W250M01", 0, -3, 1);
        share("L19W092W150W250W350M01", 0, -9, 2);
        share("L19W092W150W250W350W450M01", 0, -27, 5);
        share("L19W150W250W350W450W092M01", 4, -27, 5);
    }

    private static void shareInLeastTerms() {
        DUE.sentence("FRACTIONS are told above (upper = true; less than 0, if they are), below, in least terms.");
        share("L19W052W450M20", 0, 1, 2);
        share("L19W052W450M20", 1, 7, 2);
        share("L19W050W450M20", 0, 3, 1);
        // 18 if it comes first of five, else nothing.
        share("L19W092W150W250W350W450M01", 4, 18, 5);
    }

    // ---- part 2

    private static void nothingIsChanged() {
        DUE.sentence("In what follows nothing is changed.");
        Edges.Call[] asked = {x -> x.dim(0, 0), x -> x.dim(1, 99), x -> x.cheap(true), x -> x.cheap(false),
            x -> x.moving(0), x -> x.moving(1), x -> x.judge(4, 49480000), x -> x.judge(1, 0), x -> x.share(0, true),
            x -> x.share(1, false)};
        for (Edges.Made made : new Edges.Made[] {Edges::busy, Edges::brim, Edges::fresh}) {
            for (int call = 0; call < asked.length; call++) {
                Edges.leaves(DUE, "question " + call, made, asked[call], asked[call].on(made.anew()));
            }
        }
    }

    private static void asTheStreetIsNow() {
        DUE.sentence("OWES: what it owes now; all together.");
        for (int n = 0; n < 2; n++) {
            int window = n;
            boolean upper = n == 0;
            Edges.answersAsNow(DUE, "dim", x -> x.dim(window, 0));
            Edges.answersAsNow(DUE, "cheap", x -> x.cheap(upper));
            Edges.answersAsNow(DUE, "moving", x -> x.moving(window));
            Edges.answersAsNow(DUE, "judge", x -> x.judge(1, 10 + window));
            Edges.answersAsNow(DUE, "judge", x -> x.judge(2, 4746 + 1000 * window));
            Edges.answersAsNow(DUE, "share", x -> x.share(0, upper));
            Edges.answersAsNow(DUE, "share", x -> x.share(1, upper));
        }
        for (int doing = 0; doing < 100; doing++) {
            int row = doing;
            Edges.answersAsNow(DUE, "judge", x -> x.judge(1, row));
        }
    }
}
