import java.math.BigInteger;

/** Promises 24 to 27: rests, clouds, the seed, weeks. */
public final class ChancesTest {
    private static final int NONE = LampMoths.NONE;
    private static final Due DUE = new Due("ChancesTest");

    public static void main(String[] args) {
        rests();
        restsRefused();
        clouds();
        cloudsRefused();
        seeds();
        weeksByLot();
        weeksRefused();
        weeksChangeTheSeedAlone();
        DUE.end();
    }

    private static void rests(String text, int many, int first, int swapped) {
        LampMoths x = Due.streetOf(text);
        DUE.is("rests in " + text, x.rests(0, 1, 0), many);
        DUE.is("first rest in " + text, x.rests(0, 1, 1), first);
        DUE.is("rests of them swapped in " + text, x.rests(1, 0, 0), many);
        DUE.is("first rest of them swapped in " + text, x.rests(1, 0, 1), swapped);
    }

    private static void rests() {
        rests("L19W050W850M00M80", 1, 0, 0);
        rests("L19W050W850", 1, 11, 11);
        rests("L19W050W850M80", 1, 10, 1);
        rests("L19W060W160M00M10", 1, 0, 0);
        rests("L19W060W160M02", 1, 11, 11);
        rests("L19W050W450M20", 2, 0, 0);
        rests("L19W062W160M00", 0, NONE, NONE);
        // One that is dark now has 5 when it "burns as now", for it owes nothing.
        rests("L19W000W850M80", 1, 10, 1);
        // Three share one: each has 3 of 5 then, as in the dark beside one of 6 or more; like much is no more.
        rests("L19W060W170W280M00", 2, 10, 1);
        // Window 1 reads in the dark by window 2, which is neither of the two: 3 against 2.
        rests("L19W020W742W860M70", 1, 11, 11);
        rests("L19W020W772W860M70", 1, 10, 1);
    }

    private static void restsRefused() {
        LampMoths x = Due.streetOf("L19W050W850M00M80");
        DUE.is("rests(2, 0, 0)", x.rests(2, 0, 0), LampMoths.UNKNOWN);
        DUE.is("rests(0, 2, 0)", x.rests(0, 2, 0), LampMoths.UNKNOWN);
        DUE.is("rests(-1, 0, 0)", x.rests(-1, 0, 0), LampMoths.UNKNOWN);
        DUE.is("rests(0, -1, 0)", x.rests(0, -1, 0), LampMoths.UNKNOWN);
        DUE.is("rests(0, 0, 0)", x.rests(0, 0, 0), LampMoths.BAD);
        DUE.is("rests(0, 1, 2)", x.rests(0, 1, 2), LampMoths.BAD);
        DUE.is("rests(0, 1, -1)", x.rests(0, 1, -1), LampMoths.BAD);
        DUE.is("UNKNOWN is told ahead of BAD", x.rests(2, 2, 2), LampMoths.UNKNOWN);
        DUE.is("UNKNOWN is told ahead of BAD", x.rests(0, 2, 2), LampMoths.UNKNOWN);
    }

    private static void clouds(String text, int t, int x, int above, int below) {
        LampMoths lamps = Due.streetOf(text);
        String before = Due.seen(lamps);
        DUE.is("clouds(" + t + ", " + x + ") above in " + text, lamps.clouds(t, x, true), above);
        DUE.is("clouds(" + t + ", " + x + ") below in " + text, lamps.clouds(t, x, false), below);
        DUE.holds("clouds change nothing", before.equals(Due.seen(lamps)));
    }

    private static void clouds() {
        clouds("L19", 0, 5, 1, 1);
        clouds("L19W060M50", 5, 3, 3, 10);
        clouds("L19W060M50", 5, 5, 1, 2);
        clouds("L19W060M50", 6, 3, 1, 1);
        clouds("L19W060M50", 0, 0, 0, 1);
        clouds("L19W060M50", 0, 10, 1, 1);
        clouds("L19W060M50", 99, 7, 1, 1);
        clouds("L19W010M00", 0, 4, 2, 5);
        clouds("L19W020M00", 0, 4, 2, 5);
        clouds("L19W030M00", 0, 4, 0, 1);
        // Each by itself: both, or the one, or the other, or none.
        clouds("L19W020W820M00M81", 0, 3, 9, 100);
        clouds("L19W020W820M00M81", 6, 3, 3, 10);
        clouds("L19W020W820M00M81", 18, 3, 51, 100);
        clouds("L19W020W820M00M81", 17, 3, 3, 10);
        clouds("L19W020W820M00M81", 24, 3, 1, 1);
        clouds("L19W010W210W410W610W810M00M20M40M60M80", 0, 1, 1, 100000);
        clouds("L19W010W210W410W610W810M00M20M40M60M80", 29, 9, 99999, 100000);
    }

    private static void cloudsRefused() {
        LampMoths x = Due.streetOf("L19W060M50");
        for (boolean upper : new boolean[] {true, false}) {
            DUE.is("clouds(-1, 0)", x.clouds(-1, 0, upper), LampMoths.BAD);
            DUE.is("clouds(100, 0)", x.clouds(100, 0, upper), LampMoths.BAD);
            DUE.is("clouds(0, -1)", x.clouds(0, -1, upper), LampMoths.BAD);
            DUE.is("clouds(0, 11)", x.clouds(0, 11, upper), LampMoths.BAD);
        }
    }

    private static void seeds() {
        LampMoths x = new LampMoths();
        DUE.is("seed at first", x.seed(Long.MIN_VALUE), 0);
        DUE.is("seed", x.seed(Long.MAX_VALUE), Long.MIN_VALUE);
        DUE.is("seed", x.seed(0), Long.MAX_VALUE);
        x.weeks(1);
        DUE.is("the seed behind a week", x.seed(0), 1442695040888963407L);
        x.weeks(30);
        DUE.is("the seed behind 30 weeks", x.seed(-1), after(0, 30));
        x.weeks(2);
        x.weeks(5);
        DUE.is("the seed behind 7 weeks", x.seed(0), after(-1, 7));
    }

    private static long after(long seed, int weeks) {
        BigInteger x = BigInteger.valueOf(seed);
        for (int week = 0; week < weeks; week++) {
            x = x.multiply(new BigInteger("6364136223846793005")).add(new BigInteger("1442695040888963407"));
        }
        return x.longValue();
    }

    private static int lotOf(long x) {
        BigInteger bits = BigInteger.valueOf(x).mod(BigInteger.ONE.shiftLeft(64));
        return bits.shiftRight(33).mod(BigInteger.valueOf(20)).intValue();
    }

    /** A seed whose next two lots are these. */
    private static long seedFor(int lot, int next) {
        for (long seed = 0; seed < 100000; seed++) {
            if (lotOf(after(seed, 1)) == lot && lotOf(after(seed, 2)) == next) {
                return seed;
            }
        }
        throw new IllegalStateException("no seed for " + lot);
    }

    private static void weeksByLot() {
        // Moth 0 is shared by windows 0 and 1; a turn or a wind tells by the cat's half who draws it.
        String text = "L19W052W450W800W700M20";
        int shared = 1 + 3;
        int[] want = new int[20];
        for (int lot = 0; lot < 20; lot++) {
            want[lot] = shared;
        }
        want[0] = 3;
        want[1] = 6;
        want[5] = 6;
        want[6] = 3;
        want[10] = 3;
        want[12] = 6;
        for (int lot = 0; lot < 20; lot++) {
            LampMoths x = Due.streetOf(text);
            x.seed(seedFor(lot, 13));
            int nights = lot < 13 ? want[lot] : shared + 3;
            DUE.is("weeks(2) with the lot " + lot, x.weeks(2), nights);
        }
        LampMoths full = Due.streetOf("L19W090W800M00");
        full.seed(seedFor(0, 13));
        DUE.is("one of 9 is not turned up", full.weeks(2), 6);
        full.seed(seedFor(6, 13));
        DUE.is("one of 0 is not turned down", full.weeks(2), 6);
        full.seed(seedFor(4, 19));
        DUE.is("one that there is not is not turned", full.weeks(2), 6);
    }

    private static void weeksRefused() {
        LampMoths x = Due.streetOf("L19W052M20");
        x.seed(5);
        for (int m : new int[] {0, -1, 31, Integer.MIN_VALUE, Integer.MAX_VALUE}) {
            DUE.is("weeks(" + m + ")", x.weeks(m), LampMoths.BAD);
        }
        DUE.is("refused weeks leave the seed", x.seed(5), 5);
    }

    private static void weeksChangeTheSeedAlone() {
        LampMoths x = Due.streetOf("L05W053W242W391W680M03M21M52M73M81");
        x.night();
        String before = Due.seen(x);
        x.weeks(30);
        x.rests(0, 1, 0);
        DUE.holds("weeks change nothing", before.equals(Due.seen(x)));
        LampMoths y = Due.streetOf("L19W050M00");
        int paid = 0;
        for (int n = 0; n < 30; n++) {
            paid += y.weeks(1);
        }
        y.night();
        y.seed(seedFor(13, 19));
        DUE.is("what was paid before is no part of it", y.weeks(2), 12);
        DUE.holds("some weeks are nights: " + paid, paid > 0 && paid % 6 == 0);
    }
}
