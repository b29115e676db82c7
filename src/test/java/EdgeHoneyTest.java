/** The boundary cases of promises 21 to 23: what is counted, and where the honey may lie. */
public final class EdgeHoneyTest {
    private static final int ANYWHERE = 1023;
    private static final Due DUE = new Due("EdgeHoneyTest");

    public static void main(String[] args) {
        countUnknown();
        countBadWind();
        countBadSum();
        countFull();
        countOfSeveral();
        noneAtFirst();
        forget();
        honeysOfEachPlace();
        honeysOfEachSum();
        honeysOfEachWind();
        honeysNowhere();
        asAllBurnAndSitNow();
        windowsThatAreGone();
        nothingIsChanged();
        asTheStreetIsNow();
        DUE.end();
    }

    // ---- promise 21

    private static LampMoths two() {
        return Due.streetOf("L19W030W830M43");
    }

    private static void countUnknown() {
        DUE.sentence("COUNTED: how much there is. UNKNOWN; BAD: wind, t; FULL: 6.");
        for (int window : Edges.INTS) {
            if (Edges.isIn(window, 0, 4)) {
                DUE.is("count(" + window + ", 1, 6)", Edges.busy().count(window, 1, 6), 3);
            } else {
                Edges.leavesAll(DUE, "count(" + window + ", 1, 6)", x -> x.count(window, 1, 6), LampMoths.UNKNOWN);
            }
        }
        Edges.leaves(DUE, "count(2, 1, 6) of two", EdgeHoneyTest::two, x -> x.count(2, 1, 6), LampMoths.UNKNOWN);
        Edges.leaves(DUE, "count(0, 1, 6) of none", Edges::fresh, x -> x.count(0, 1, 6), LampMoths.UNKNOWN);
    }

    private static void countBadWind() {
        DUE.sentence("COUNTED: how much there is. UNKNOWN; BAD: wind, t; FULL: 6.");
        for (int wind : Edges.INTS) {
            if (Edges.isIn(wind, 0, 2)) {
                DUE.is("count(0, " + wind + ", 6)", Edges.busy().count(0, wind, 6), 3);
            } else {
                Edges.leaves(DUE, "count(0, " + wind + ", 6)", Edges::busy, x -> x.count(0, wind, 6), LampMoths.BAD);
                Edges.leaves(DUE, "first count(0, " + wind + ", 6)", EdgeHoneyTest::two, x -> x.count(0, wind, 6),
                        LampMoths.BAD);
            }
        }
    }

    private static void countBadSum() {
        DUE.sentence("COUNTED: that a WINDOW owed t (0 .. 99)");
        for (int t : Edges.INTS) {
            if (Edges.isIn(t, 0, 99)) {
                DUE.is("count(0, 1, " + t + ")", Edges.busy().count(0, 1, t), 3);
            } else {
                Edges.leaves(DUE, "count(0, 1, " + t + ")", Edges::busy, x -> x.count(0, 1, t), LampMoths.BAD);
                Edges.leaves(DUE, "first count(0, 1, " + t + ")", EdgeHoneyTest::two, x -> x.count(0, 1, t),
                        LampMoths.BAD);
            }
        }
    }

    private static void countFull() {
        DUE.sentence("6 such at most");
        LampMoths x = two();
        for (int n = 1; n <= 6; n++) {
            DUE.is("count", x.count(n % 2, n % 3, n), n);
            DUE.is("counted", x.about(9), n);
        }
        DUE.is("count a seventh", x.count(0, 1, 0), LampMoths.FULL);
        DUE.is("counted", x.about(9), 6);
        Edges.leaves(DUE, "full count(0, 0, 0)", Edges::brim, y -> y.count(0, 0, 0), LampMoths.FULL);
        Edges.leaves(DUE, "full count(1, 2, 99)", Edges::brim, y -> y.count(1, 2, 99), LampMoths.FULL);
        x.forget();
        DUE.is("count behind nothing", x.count(0, 1, 0), 1);
    }

    private static void countOfSeveral() {
        DUE.sentence("Of several what is told first.");
        for (int n : new int[] {-1, 2, 3, Integer.MIN_VALUE, Integer.MAX_VALUE}) {
            for (int wind : new int[] {-1, 1, 3}) {
                for (int t : new int[] {-1, 6, 100}) {
                    Edges.leaves(DUE, "full count(" + n + ", " + wind + ", " + t + ")", Edges::brim,
                            x -> x.count(n, wind, t), LampMoths.UNKNOWN);
                    Edges.leaves(DUE, "count(" + n + ", " + wind + ", " + t + ")", EdgeHoneyTest::two,
                            x -> x.count(n, wind, t), LampMoths.UNKNOWN);
                    boolean bad = wind != 1 || t != 6;
                    Edges.leaves(DUE, "full count(0, " + wind + ", " + t + ")", Edges::brim,
                            x -> x.count(0, wind, t), bad ? LampMoths.BAD : LampMoths.FULL);
                }
            }
        }
    }

    private static void noneAtFirst() {
        DUE.sentence("6 such at most, none at first");
        LampMoths x = new LampMoths();
        DUE.is("counted", x.about(9), 0);
        DUE.is("honeys", x.honeys(), ANYWHERE);
        DUE.is("forget", x.forget(), 0);
        DUE.is("counted of a street", two().about(9), 0);
        DUE.is("honeys of a street", two().honeys(), ANYWHERE);
        DUE.is("honeys of an empty street", Due.streetOf("L00").honeys(), ANYWHERE);
    }

    // ---- promise 22

    private static void forget() {
        DUE.sentence("Nothing is COUNTED: how much there was.");
        for (int many = 0; many <= 6; many++) {
            LampMoths x = two();
            for (int n = 0; n < many; n++) {
                x.count(0, 1, 99);
            }
            DUE.is("honeys", x.honeys(), many == 0 ? ANYWHERE : 0);
            DUE.is("forget " + many, x.forget(), many);
            DUE.is("counted", x.about(9), 0);
            DUE.is("honeys", x.honeys(), ANYWHERE);
            DUE.is("forget nothing", x.forget(), 0);
        }
        Edges.leaves(DUE, "forget nothing", EdgeHoneyTest::two, LampMoths::forget, 0);
        Edges.leaves(DUE, "forget nothing of a new one", Edges::fresh, LampMoths::forget, 0);
    }

    // ---- promise 23

    private static LampMoths counted(String text, int window, int wind, int t) {
        LampMoths x = Due.streetOf(text);
        x.count(window, wind, t);
        return x;
    }

    private static void honeysOfEachPlace() {
        DUE.sentence("HONEYS: where it may lie (bits 0 .. 9; 9: nowhere), so that all that is COUNTED is so.");
        for (int place = 0; place <= 8; place++) {
            // A window of 1 draws a sweet moth beside it only if the honey is where it is.
            String text = "L19W" + place + "10M" + (place == 8 ? 7 : place + 1) + "3";
            DUE.is("at " + place, counted(text, 0, 1, 6).honeys(), 1 << place);
            DUE.is("not at " + place, counted(text, 0, 1, 0).honeys(), ANYWHERE - (1 << place));
            DUE.is("neither", counted(text, 0, 1, 3).honeys(), 0);
            LampMoths both = counted(text, 0, 1, 6);
            both.count(0, 1, 0);
            DUE.is("both can not be", both.honeys(), 0);
        }
    }

    private static void honeysOfEachSum() {
        DUE.sentence("COUNTED: that a WINDOW owed t (0 .. 99)");
        String most = "L19W090W890M01M01M01M01M01M41";
        DUE.is("99", counted(most, 0, 1, 99).honeys(), ANYWHERE);
        DUE.is("98", counted(most, 0, 1, 98).honeys(), 0);
        DUE.is("9", counted(most, 1, 1, 9).honeys(), ANYWHERE);
        DUE.is("0 of a dark one", counted("L19W000M00", 0, 1, 0).honeys(), ANYWHERE);
        DUE.is("1 of a dark one", counted("L19W000M00", 0, 1, 1).honeys(), 0);
        // 108 is more than can be counted.
        for (int t = 0; t <= 99; t++) {
            DUE.is("108 is not " + t, counted("L19W090M01M01M01M01M01M01", 0, 1, t).honeys(), 0);
        }
    }

    private static void honeysOfEachWind() {
        DUE.sentence("as all burn and sit now, but for HONEY, with a WIND w");
        String text = "L19W050W850M40";
        int[][] owed = {{6, 3, 0}, {0, 3, 6}};
        for (int window = 0; window <= 1; window++) {
            for (int wind = 0; wind <= 2; wind++) {
                for (int t : new int[] {0, 3, 6}) {
                    LampMoths x = counted(text, window, wind, t);
                    DUE.is("honeys", x.honeys(), owed[window][wind] == t ? ANYWHERE : 0);
                    x.blow(2);
                    DUE.is("the wind of now is set aside", x.honeys(), owed[window][wind] == t ? ANYWHERE : 0);
                    x.move(0);
                    DUE.is("the honey of now is set aside", x.honeys(), owed[window][wind] == t ? ANYWHERE : 0);
                }
            }
        }
        LampMoths six = Due.streetOf(text);
        for (int n = 0; n < 6; n++) {
            DUE.is("honeys of " + n + " counted", six.honeys(), ANYWHERE);
            six.count(n % 2, n % 3, owed[n % 2][n % 3]);
        }
        DUE.is("honeys of six counted", six.honeys(), ANYWHERE);
        LampMoths last = Due.streetOf(text);
        for (int n = 0; n < 6; n++) {
            last.count(n % 2, n % 3, n == 5 ? 5 : owed[n % 2][n % 3]);
        }
        DUE.is("the sixth is looked at", last.honeys(), 0);
    }

    private static void honeysNowhere() {
        DUE.sentence("(bits 0 .. 9; 9: nowhere)");
        // Five windows that have nothing without honey: nothing counted of any of them leaves the other places.
        String text = "L10W010W210W410W610W810M13M33M53M73";
        LampMoths x = Due.streetOf(text);
        for (int window = 0; window < 5; window++) {
            x.count(window, 1, 0);
        }
        DUE.is("at 1, 3, 5, 7 or nowhere", x.honeys(), 2 + 8 + 32 + 128 + 512);
        // With it the one draws the moths that are 1 and 3 off.
        DUE.is("at 8", counted(text, 4, 1, 12).honeys(), 256);
        DUE.is("at 0", counted(text, 0, 1, 12).honeys(), 1);
    }

    private static void asAllBurnAndSitNow() {
        DUE.sentence("as all burn and sit now, but for HONEY");
        LampMoths x = counted("L19W030M43", 0, 1, 6);
        DUE.is("at 0", x.honeys(), 1);
        x.up(0);
        DUE.is("it burns 4", x.honeys(), 1);
        x.up(0);
        DUE.is("it burns 5 and needs no honey", x.honeys(), ANYWHERE);
        x.night();
        x.down(0);
        DUE.is("the moth sits at 3, it burns 4", x.honeys(), ANYWHERE);
        x.down(0);
        DUE.is("it burns 3", x.honeys(), 1);
    }

    private static void windowsThatAreGone() {
        DUE.sentence("(of WINDOWS that there are not any more nothing is looked at)");
        LampMoths x = Due.streetOf("L19W000W200W400W600W800");
        for (int window = 0; window < 5; window++) {
            x.count(window, 1, 99);
        }
        for (int windows = 5; windows >= 0; windows--) {
            Due.tell(x, "L19" + Edges.alike(windows));
            x.street();
            DUE.is("honeys of " + windows, x.honeys(), windows == 0 ? ANYWHERE : 0);
            DUE.is("counted", x.about(9), 5);
        }
        LampMoths last = Due.streetOf("L19W000W200W400W600W800");
        last.count(4, 1, 99);
        Due.tell(last, "L19" + Edges.alike(4));
        last.street();
        DUE.is("window 4 is gone", last.honeys(), ANYWHERE);
        Due.tell(last, "L19" + Edges.alike(5));
        last.street();
        DUE.is("window 4 is there", last.honeys(), 0);
    }

    private static void nothingIsChanged() {
        DUE.sentence("In what follows nothing is changed.");
        for (Edges.Made made : new Edges.Made[] {Edges::busy, Edges::brim, Edges::fresh}) {
            Edges.leaves(DUE, "honeys", made, LampMoths::honeys, made.anew().honeys());
        }
    }

    private static void asTheStreetIsNow() {
        DUE.sentence("as all burn and sit now, but for HONEY, with a WIND w");
        for (int window = 0; window < 2; window++) {
            for (int sum = 0; sum <= 30; sum++) {
                int which = window;
                int t = sum;
                Edges.answersAsNow(DUE, "honeys", x -> {
                    x.forget();
                    x.count(which, 1, t);
                    return x.honeys();
                });
            }
        }
    }
}
