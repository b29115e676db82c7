import java.math.BigInteger;

/** The boundary cases of promises 24 to 27: rests, clouds, the seed, weeks. */
public final class EdgeChancesTest {
    private static final int NONE = LampMoths.NONE;
    private static final int NIGHT = 13;
    private static final BigInteger TIMES = new BigInteger("6364136223846793005");
    private static final BigInteger MORE = new BigInteger("1442695040888963407");
    private static final BigInteger ALL = BigInteger.ONE.shiftLeft(64);
    private static final long[] LONGS = {
        0L, 1L, -1L, 19L, 20L, Integer.MAX_VALUE, Integer.MIN_VALUE, (1L << 33) - 1, 1L << 33, (1L << 62) - 1, 1L << 62,
        Long.MAX_VALUE - 1, Long.MAX_VALUE, Long.MIN_VALUE, Long.MIN_VALUE + 1};
    private static final Due DUE = new Due("EdgeChancesTest");

    public static void main(String[] args) {
        restsUnknown();
        restsBothAreOne();
        restsWhat();
        restsOfSeveral();
        restsNone();
        restsFirst();
        restsLikeMuchIsNoMore();
        restsReadInTheDark();
        cloudsBounds();
        cloudsZeroAtLeast();
        cloudsOrLess();
        cloudsTenths();
        cloudsLeastTerms();
        seeds();
        seedsWrap();
        weeksBounds();
        weeksUpperBits();
        weeksTurnUp();
        weeksTurnDown();
        weeksIfItCanBe();
        weeksWinds();
        weeksNights();
        weeksPaidMore();
        weeksChangeTheSeedAlone();
        nothingIsChanged();
        asTheStreetIsNow();
        DUE.end();
    }

    // ---- promise 24

    private static void restsUnknown() {
        DUE.sentence("UNKNOWN: window, other; BAD: both are one, what.");
        for (int window : Edges.INTS) {
            if (!Edges.isIn(window, 0, 4)) {
                Edges.leavesAll(DUE, "rests(" + window + ", 0, 0)", x -> x.rests(window, 0, 0), LampMoths.UNKNOWN);
                Edges.leavesAll(DUE, "rests(0, " + window + ", 1)", x -> x.rests(0, window, 1), LampMoths.UNKNOWN);
            } else if (window > 0) {
                DUE.holds("rests(0, " + window + ", 0)", Edges.isIn(Edges.busy().rests(0, window, 0), 0, 4));
                DUE.holds("rests(" + window + ", 0, 0)", Edges.isIn(Edges.busy().rests(window, 0, 0), 0, 4));
            }
        }
        Edges.leaves(DUE, "rests(0, 2, 0) of two", Edges::brim, x -> x.rests(0, 2, 0), LampMoths.UNKNOWN);
        Edges.leaves(DUE, "rests(2, 0, 0) of two", Edges::brim, x -> x.rests(2, 0, 0), LampMoths.UNKNOWN);
        Edges.leaves(DUE, "rests(0, 1, 0) of none", Edges::fresh, x -> x.rests(0, 1, 0), LampMoths.UNKNOWN);
        Edges.leaves(DUE, "rests(0, 1, 0) of one", () -> Due.streetOf("L19W050"), x -> x.rests(0, 1, 0),
                LampMoths.UNKNOWN);
    }

    private static void restsBothAreOne() {
        DUE.sentence("UNKNOWN: window, other; BAD: both are one, what.");
        for (int window = 0; window < 5; window++) {
            for (int what : Edges.INTS) {
                int which = window;
                Edges.leaves(DUE, "rests(" + window + ", " + window + ", " + what + ")", Edges::busy,
                        x -> x.rests(which, which, what), LampMoths.BAD);
            }
        }
    }

    private static void restsWhat() {
        DUE.sentence("RESTS: how many (what = 0), the first one (1; NONE).");
        for (int what : Edges.INTS) {
            if (!Edges.isIn(what, 0, 1)) {
                Edges.leaves(DUE, "rests(0, 1, " + what + ")", Edges::busy, x -> x.rests(0, 1, what), LampMoths.BAD);
                Edges.leaves(DUE, "full rests(1, 0, " + what + ")", Edges::brim, x -> x.rests(1, 0, what), LampMoths.BAD);
            }
        }
    }

    private static void restsOfSeveral() {
        DUE.sentence("Of several what is told first.");
        for (int window : new int[] {-1, 5, Integer.MIN_VALUE, Integer.MAX_VALUE}) {
            for (int what : Edges.INTS) {
                Edges.leavesAll(DUE, "rests of the same " + window, x -> x.rests(window, window, what), LampMoths.UNKNOWN);
                Edges.leavesAll(DUE, "rests of 1 and " + window, x -> x.rests(1, window, what), LampMoths.UNKNOWN);
                Edges.leavesAll(DUE, "rests of " + window + " and 1", x -> x.rests(window, 1, what), LampMoths.UNKNOWN);
            }
        }
    }

    private static void rests(String text, int other, int many, int first, int swapped) {
        Edges.Made made = () -> Due.streetOf(text);
        Edges.leaves(DUE, "rests in " + text, made, x -> x.rests(0, other, 0), many);
        Edges.leaves(DUE, "the first in " + text, made, x -> x.rests(0, other, 1), first);
        Edges.leaves(DUE, "rests of them swapped in " + text, made, x -> x.rests(other, 0, 0), many);
        Edges.leaves(DUE, "the first of them swapped in " + text, made, x -> x.rests(other, 0, 1), swapped);
    }

    private static void restsNone() {
        DUE.sentence("how many; the first one (10 times the one and the other); NONE.");
        // Whatever they choose, one of both has more by the other choice.
        rests("L19W370W482M40", 1, 0, NONE, NONE);
        // Both read in the dark by third ones, and owe 2 in the light, whatever the other does.
        rests("L26W771W081W113W881W421M43M30", 2, 4, 0, 0);
    }

    private static void restsFirst() {
        DUE.sentence("pairs in which neither has more by another choice alone: how many; the first one (10 times the one "
                + "and the other)");
        rests("L19W050W850M00M80", 1, 1, 0, 0);
        rests("L19W050W850M00", 1, 1, 1, 10);
        rests("L19W050W850M80", 1, 1, 10, 1);
        rests("L19W050W850", 1, 1, 11, 11);
        rests("L19W050W450M20", 1, 2, 0, 0);
        rests("L19W180W270W810M80", 1, 3, 1, 1);
        // One that does not burn at all draws nothing: the other owes for the moth that sits beside the dark one.
        rests("L19W050W450M00", 1, 1, 0, 0);
        rests("L19W450W050M00", 1, 1, 0, 0);
    }

    private static void restsLikeMuchIsNoMore() {
        DUE.sentence("who does has 5 less what it owes then; who does not has 3, if it READS then, else 0");
        // Window 1 is dark now and has 5 if it "burns as now"; window 0 has 5 less 6, 3 or 9, and in the dark 0.
        rests("L19W050W800M00", 1, 1, 1, 10);
        rests("L19W052W800M00", 1, 1, 11, 11);
        rests("L19W052W800M01", 1, 1, 1, 10);
        // 5 less 5 is like nothing in the dark: it owes 3 of a moth that two share and 2 of one that three share.
        rests("L19W440W800W550W040M40M20", 1, 2, 1, 10);
    }

    private static void restsReadInTheDark() {
        DUE.sentence("who does not has 3, if it READS then, else 0");
        // It has 5 in the light, for the one beside it draws the moth: more than 3.
        rests("L19W042W800W160M00", 1, 1, 11, 11);
        // It owes 3 in the light and has 2, against 3 beside one that burns 6, 0 beside one that burns 5 or 2 off.
        rests("L19W072W800W160M00", 1, 1, 1, 10);
        rests("L19W072W800W150M00", 1, 1, 11, 11);
        rests("L19W072W800W260M00", 1, 1, 11, 11);
        // The other's light is read by only if it burns.
        rests("L19W072W160M00", 1, 0, NONE, NONE);
    }

    // ---- promise 25

    private static void clouds(String text, int t, int x, int above, int below) {
        Edges.Made made = () -> Due.streetOf(text);
        Edges.leaves(DUE, "clouds above, " + t + ", " + x + " in " + text, made, y -> y.clouds(t, x, true), above);
        Edges.leaves(DUE, "clouds below, " + t + ", " + x + " in " + text, made, y -> y.clouds(t, x, false), below);
    }

    private static void cloudsBounds() {
        DUE.sentence("CLOUDS. BAD: t, x.");
        for (int t : Edges.INTS) {
            for (int x : Edges.INTS) {
                if (!Edges.isIn(t, 0, 99) || !Edges.isIn(x, 0, 10)) {
                    Edges.leaves(DUE, "clouds(" + t + ", " + x + ", true)", Edges::busy, y -> y.clouds(t, x, true),
                            LampMoths.BAD);
                    Edges.leaves(DUE, "full clouds(" + t + ", " + x + ", false)", Edges::brim,
                            y -> y.clouds(t, x, false), LampMoths.BAD);
                    DUE.is("new clouds(" + t + ", " + x + ", true)", Edges.fresh().clouds(t, x, true), LampMoths.BAD);
                } else {
                    DUE.is("new clouds(" + t + ", " + x + ", true)", Edges.fresh().clouds(t, x, true), 1);
                    DUE.is("new clouds(" + t + ", " + x + ", false)", Edges.fresh().clouds(t, x, false), 1);
                }
            }
        }
    }

    private static void cloudsZeroAtLeast() {
        DUE.sentence("CLOUDS: each WINDOW burns 2 less (0 at least)");
        for (int burns = 0; burns <= 9; burns++) {
            String there = "L19W4" + burns + "0M40";
            clouds(there, 5, 10, burns <= 2 ? 1 : 0, 1);
            clouds(there, 5, 0, burns == 0 ? 1 : 0, 1);
            // A widow of 1 has 3 while it burns, and nothing under a cloud.
            clouds("L14W4" + burns + "3M43", 5, 10, burns <= 2 ? 1 : 0, 1);
        }
    }

    private static void cloudsOrLess() {
        DUE.sentence("that all owe t (0 .. 99) or less together: a FRACTION.");
        clouds("L19W060M50", 5, 3, 3, 10);
        clouds("L19W060M50", 6, 3, 1, 1);
        clouds("L19W000M00", 0, 3, 1, 1);
        // Six of 18 are 108, and under a cloud the one that is far off is lost: 90.
        String most = "L19W090M01M01M01M01M01M81";
        clouds(most, 99, 3, 3, 10);
        clouds(most, 90, 3, 3, 10);
        clouds(most, 89, 3, 0, 1);
        clouds(most, 99, 0, 0, 1);
        clouds(most, 99, 10, 1, 1);
        clouds("L19W090W890M01M01M01M01M01M22", 90, 5, 1, 1);
        clouds("L19W090W890M01M01M01M01M01M22", 89, 5, 0, 1);
    }

    private static void cloudsTenths() {
        DUE.sentence("by x tenths (0 .. 10), by itself");
        int[] above = {0, 1, 1, 3, 2, 1, 3, 7, 4, 9, 1};
        int[] below = {1, 10, 5, 10, 5, 2, 5, 10, 5, 10, 1};
        for (int x = 0; x <= 10; x++) {
            clouds("L19W020M00", 0, x, above[x], below[x]);
        }
        // Two by themselves: both, one of them, none.
        clouds("L19W020W820M00M80", 0, 3, 9, 100);
        clouds("L19W020W820M00M80", 6, 3, 51, 100);
        clouds("L19W020W820M00M80", 11, 3, 51, 100);
        clouds("L19W020W820M00M80", 12, 3, 1, 1);
        clouds("L19W020W820M00M80", 0, 0, 0, 1);
        clouds("L19W020W820M00M80", 0, 10, 1, 1);
    }

    private static void cloudsLeastTerms() {
        DUE.sentence("FRACTIONS are told above (upper = true; less than 0, if they are), below, in least terms.");
        String five = "L19W020W220W420W620W820M00M20M40M60M80";
        clouds(five, 0, 1, 1, 100000);
        clouds(five, 0, 9, 59049, 100000);
        clouds(five, 29, 9, 99999, 100000);
        clouds(five, 0, 5, 1, 32);
        clouds(five, 24, 5, 31, 32);
        clouds(five, 0, 2, 1, 3125);
        clouds(five, 0, 0, 0, 1);
        clouds(five, 29, 0, 0, 1);
        clouds(five, 30, 0, 1, 1);
        clouds(five, 0, 10, 1, 1);
    }

    // ---- promise 26

    private static long after(long seed, int weeks) {
        BigInteger x = BigInteger.valueOf(seed);
        for (int week = 0; week < weeks; week++) {
            x = x.multiply(TIMES).add(MORE).mod(ALL);
        }
        return x.longValue();
    }

    /** The seed that becomes this one in a week. */
    private static long before(long seed) {
        return BigInteger.valueOf(seed).subtract(MORE).multiply(TIMES.modInverse(ALL)).longValue();
    }

    private static int lotOf(long x) {
        return BigInteger.valueOf(x).mod(ALL).shiftRight(33).mod(BigInteger.valueOf(20)).intValue();
    }

    /** A seed by whose next week the upper 31 bits are these, then come these lots, then a night. */
    private static long seedFor(long upper, int... lots) {
        for (long low = 0; low < 100000; low++) {
            long next = upper << 33 | low;
            boolean fits = lotOf(after(next, lots.length + 1)) >= NIGHT;
            for (int at = 0; at < lots.length; at++) {
                fits &= lotOf(after(next, at + 1)) == lots[at];
            }
            if (fits) {
                return before(next);
            }
        }
        throw new IllegalStateException("no seed for " + upper);
    }

    private static void seeds() {
        DUE.sentence("THE SEED is v: what it was.");
        LampMoths x = new LampMoths();
        long was = 0;
        for (long v : LONGS) {
            DUE.is("seed(" + v + ")", x.seed(v), was);
            was = v;
        }
        DUE.is("seed(0)", x.seed(0), was);
        LampMoths y = Edges.brim();
        String all = Due.seen(y);
        y.seed(Long.MAX_VALUE);
        DUE.same("seed changes nothing else", Due.seen(y), all);
    }

    private static void seedsWrap() {
        DUE.sentence("becomes x times 6364136223846793005 and 1442695040888963407 (64 bits, wrapping)");
        for (long v : LONGS) {
            for (int m : new int[] {1, 2, 30}) {
                LampMoths x = new LampMoths();
                x.seed(v);
                x.weeks(m);
                DUE.is("behind " + m + " weeks of " + v, x.seed(0), after(v, m));
            }
            LampMoths x = new LampMoths();
            x.seed(before(v));
            x.weeks(1);
            DUE.is("it becomes " + v, x.seed(0), v);
        }
    }

    // ---- promise 27

    private static void weeksBounds() {
        DUE.sentence("WEEKS by THE SEED: m times (1 .. 30)");
        for (int m : Edges.INTS) {
            if (Edges.isIn(m, 1, 30)) {
                LampMoths x = new LampMoths();
                DUE.is("weeks(" + m + ") of nothing", x.weeks(m), 0);
                DUE.is("the seed", x.seed(0), after(0, m));
            } else {
                Edges.leavesAll(DUE, "weeks(" + m + ")", x -> x.weeks(m), LampMoths.BAD);
            }
        }
    }

    private static void weeksUpperBits() {
        DUE.sentence("what is left of its upper 31 bits by 20");
        // A night pays 6, whatever else does not: the lots 13 and more are told from the others by one week.
        long[] uppers = {0, 1, 12, 13, 19, 20, 32, 33, 39, 40, (1L << 30) - 1, 1L << 30, (1L << 31) - 1};
        for (long upper : uppers) {
            for (long low : new long[] {0, 1, (1L << 32) - 1, 1L << 32, (1L << 33) - 1}) {
                LampMoths x = Due.streetOf("L19W090M00");
                x.seed(before(upper << 33 | low));
                DUE.is("a week of " + upper + ", " + low, x.weeks(1), upper % 20 >= NIGHT ? 6 : 0);
            }
        }
        // The last upper bits of each lot: the sign is one of them.
        for (long upper = (1L << 31) - 20; upper < 1L << 31; upper++) {
            LampMoths x = Due.streetOf("L19W090M00");
            x.seed(before(upper << 33));
            DUE.is("a week of " + upper, x.weeks(1), upper % 20 >= NIGHT ? 6 : 0);
        }
    }

    /** A window so bright at PLACE 0, where a moth sits beside it; the others burn 1 and are too far off. */
    private static String oneOfFive(int window, int burns) {
        StringBuilder text = new StringBuilder("L19");
        for (int n = 0; n < 5; n++) {
            text.append(n == window ? "W0" + burns + "0" : "W" + (4 + n) + "10");
        }
        return text.append("M10").toString();
    }

    /** What is paid by these lots and a night behind them. */
    private static int paidWith(String text, long upper, int... lots) {
        LampMoths x = Due.streetOf(text);
        x.seed(seedFor(upper, lots));
        return x.weeks(2 + lots.length);
    }

    private static void weeksTurnUp() {
        DUE.sentence("0 .. 4 that WINDOW is TURNED up");
        for (int window = 0; window < 5; window++) {
            for (int lot = 0; lot < 20; lot++) {
                // It burns 1 and draws nothing, but if it is turned up, or the wind is to lower places.
                int want = lot == window || lot == 10 ? 6 : 0;
                DUE.is("window " + window + " by the lot " + lot, paidWith(oneOfFive(window, 1), lot), want);
                DUE.is("window " + window + " by the lot " + lot, paidWith(oneOfFive(window, 1), 2147483620L + lot), want);
            }
        }
    }

    private static void weeksTurnDown() {
        DUE.sentence("5 .. 9 that less 5 is TURNED down, if it can be");
        for (int window = 0; window < 5; window++) {
            for (int lot = 0; lot < 20; lot++) {
                // It burns 2 and draws the moth, but if it is turned down; the lots of nights pay twice.
                int want = lot == window + 5 ? 0 : lot >= NIGHT ? 12 : 6;
                DUE.is("window " + window + " by the lot " + lot, paidWith(oneOfFive(window, 2), lot), want);
                DUE.is("window " + window + " by the lot " + lot, paidWith(oneOfFive(window, 2), 2147483620L + lot), want);
            }
        }
    }

    private static void weeksIfItCanBe() {
        DUE.sentence("is TURNED down, if it can be");
        for (int windows = 0; windows <= 5; windows++) {
            for (int lot = 0; lot < 10; lot++) {
                DUE.is("the lot " + lot + " of " + windows, paidWith("L19" + Edges.alike(windows), lot), 0);
            }
        }
        // Turned up to 10 it would draw the moth alone: 3; turned down from there it would share it: 4.
        DUE.is("9 is the most", paidWith("L19W092W890M40", 0), 1 + 3);
        DUE.is("8 is turned up to 9", paidWith("L19W082W890M40", 0), 1 + 3);
        DUE.is("9, up and down", paidWith("L19W092W890M40", 0, 5), 6);
        // Turned down below 0 it would still be dark behind a turn up.
        DUE.is("0, down", paidWith("L19W000M00", 5), 0);
        DUE.is("0, down and up", paidWith("L19W000M00", 5, 0), 6);
        DUE.is("1, down and up", paidWith("L19W010M00", 5, 0), 6);
        DUE.is("1, down", paidWith("L19W010M00", 5), 0);
        // With one window only the lot 1 turns nothing.
        DUE.is("window 1 is not there", paidWith("L19W010M10", 1), 0);
        DUE.is("window 0 is there", paidWith("L19W010M10", 0), 6);
        DUE.is("window 4 is not there", paidWith("L19W010W800W700W600M10", 4), 0);
    }

    private static void weeksWinds() {
        DUE.sentence("10 .. 12 the WIND is that less 10");
        // Window 0 has a cat and is at lower places: 3 if it draws the moth alone, 6 if the other does, 4 if both do.
        int[] byWind = {3, 4, 6};
        for (int wind = 0; wind <= 2; wind++) {
            for (int lot = 10; lot <= 12; lot++) {
                DUE.is("wind " + wind + ", the lot " + lot, paidWith("L" + wind + "9W052W850M40", lot), byWind[lot - 10]);
            }
            DUE.is("wind " + wind + ", the lot 4", paidWith("L" + wind + "9W052W850M40", 4), byWind[wind]);
        }
    }

    private static void weeksNights() {
        DUE.sentence("13 and more A NIGHT: what all have PAID more at last.");
        for (int lot = NIGHT; lot < 20; lot++) {
            // Moth 0 is between both: 3 and the cat's 1; then it sits nearer to the cat's window: 3.
            DUE.is("the lot " + lot, paidWith("L19W052W850M40", lot), 4 + 3);
        }
    }

    private static void weeksPaidMore() {
        DUE.sentence("what all have PAID more at last.");
        LampMoths x = Due.streetOf("L19W090M01M01M01M01M01M01");
        for (int night = 0; night < 300; night++) {
            x.night();
        }
        x.seed(before(19L << 33));
        DUE.is("what was paid before is no part of it", x.weeks(1), 108);
        DUE.is("what was paid", x.about(5), 300 * 108);
        int nights = 0;
        for (int week = 1; week <= 30; week++) {
            nights += lotOf(after(0, week)) >= NIGHT ? 1 : 0;
        }
        LampMoths y = Due.streetOf("L19W090M01M01");
        y.seed(0);
        DUE.is("30 weeks", y.weeks(30), 36 * nights);
    }

    private static void weeksChangeTheSeedAlone() {
        DUE.sentence("(Nothing changes but THE SEED.)");
        for (Edges.Made made : new Edges.Made[] {Edges::busy, Edges::brim, Edges::fresh}) {
            for (int m : new int[] {1, 30}) {
                LampMoths x = made.anew();
                long seed = x.seed(Long.MAX_VALUE);
                x.weeks(m);
                DUE.is("the seed", x.seed(seed), after(Long.MAX_VALUE, m));
                DUE.same("nothing else is changed", Edges.whole(x), Edges.whole(made.anew()));
            }
        }
    }

    // ---- part 3

    private static void nothingIsChanged() {
        DUE.sentence("In what follows nothing is changed.");
        Edges.Call[] asked = {x -> x.rests(0, 1, 0), x -> x.rests(1, 0, 1), x -> x.clouds(0, 5, true),
            x -> x.clouds(99, 10, false), x -> x.clouds(20, 0, true)};
        for (Edges.Made made : new Edges.Made[] {Edges::busy, Edges::brim, Edges::fresh}) {
            for (int call = 0; call < asked.length; call++) {
                Edges.leaves(DUE, "question " + call, made, asked[call], asked[call].on(made.anew()));
            }
        }
    }

    private static void asTheStreetIsNow() {
        DUE.sentence("RESTS of two WINDOWS: each burns as now (1), or not at all (0)");
        for (int n = 0; n < 2; n++) {
            int what = n;
            boolean upper = n == 0;
            Edges.answersAsNow(DUE, "rests", x -> x.rests(0, 1, what));
            Edges.answersAsNow(DUE, "rests", x -> x.rests(1, 0, what));
            for (int sum = 0; sum <= 99; sum++) {
                int t = sum;
                Edges.answersAsNow(DUE, "clouds", x -> x.clouds(t, 3, upper));
            }
        }
        for (long seed : LONGS) {
            Edges.answersAsNow(DUE, "weeks", x -> {
                x.seed(seed);
                return x.weeks(30);
            });
        }
    }
}
