/** Promises 1 to 9: a new object, and the street. */
public final class StreetTest {
    private static final int NONE = LampMoths.NONE;
    private static final Due DUE = new Due("StreetTest");

    public static void main(String[] args) {
        newObject();
        writing();
        wiping();
        faults();
        streets();
        streetsLeaveAndTake();
        abouts();
        windows();
        moths();
        pulls();
        taxes();
        DUE.end();
    }

    private static void newObject() {
        LampMoths x = new LampMoths();
        int[] want = {0, 0, 1, 9, 0, 0, 0, 0, 0, 0, 0};
        for (int what = 0; what < want.length; what++) {
            DUE.is("new about(" + what + ")", x.about(what), want[what]);
        }
        DUE.is("new undo", x.undo(), LampMoths.LATE);
        DUE.is("new again(0)", x.again(0), LampMoths.LATE);
        DUE.is("new again(1)", x.again(1), LampMoths.LATE);
        DUE.is("new seed", x.seed(7), 0);
        DUE.is("new window(0, 0)", x.window(0, 0), LampMoths.UNKNOWN);
        DUE.is("new moth(0, 0)", x.moth(0, 0), LampMoths.UNKNOWN);
        DUE.is("new keep", x.keep(0), 0);
    }

    private static void writing() {
        LampMoths x = new LampMoths();
        DUE.is("write(-1)", x.write(-1), LampMoths.BAD);
        DUE.is("write(256)", x.write(256), LampMoths.BAD);
        DUE.is("write(min)", x.write(Integer.MIN_VALUE), LampMoths.BAD);
        DUE.is("write(max)", x.write(Integer.MAX_VALUE), LampMoths.BAD);
        DUE.is("refused bytes", x.about(10), 0);
        DUE.is("write(0)", x.write(0), 1);
        DUE.is("write(255)", x.write(255), 2);
        for (int n = 3; n <= 56; n++) {
            DUE.is("write " + n, x.write('0'), n);
        }
        DUE.is("write to a full text", x.write('0'), LampMoths.FULL);
        DUE.is("BAD is told ahead of FULL", x.write(256), LampMoths.BAD);
        DUE.is("bytes of a full text", x.about(10), 56);
        DUE.is("wipe a full text", x.wipe(), 56);
        DUE.is("write behind nothing", x.write('L'), 1);
    }

    private static void wiping() {
        LampMoths x = Due.streetOf("L05W130M20");
        DUE.is("wipe", x.wipe(), 10);
        DUE.is("wipe again", x.wipe(), 0);
        DUE.is("bytes", x.about(10), 0);
        DUE.is("the street stays", x.about(0), 1);
        DUE.is("the moths stay", x.about(1), 1);
        DUE.is("fault of nothing", x.fault(), 0);
    }

    private static void fault(String text, int want) {
        LampMoths x = new LampMoths();
        Due.tell(x, text);
        DUE.is("fault of " + text, x.fault(), want);
        DUE.is("bytes of " + text, x.about(10), text.length());
        DUE.is("street of " + text, x.street() == LampMoths.LATE ? 1 : 0, want == NONE ? 0 : 1);
    }

    private static void faults() {
        fault("", 0);
        fault("l", 0);
        fault("W", 0);
        fault("L", 1);
        fault("L/", 1);
        fault("L0", 2);
        fault("L2", 2);
        fault("L3", 1);
        fault("L1/", 2);
        fault("L1:", 2);
        fault("L19", NONE);
        fault("L00", NONE);
        fault("L20", NONE);
        fault("L1 9", 2);
        fault("L19L", 3);
        fault("L19w", 3);
        fault("L19W", 4);
        fault("L19W8", 5);
        fault("L19W9", 4);
        fault("L19W/", 4);
        fault("L19W89", 6);
        fault("L19W8W", 5);
        fault("L19W893", NONE);
        fault("L19W894", 6);
        fault("L19W89/", 6);
        fault("L19W893W8", 8);
        fault("L19W893W", 8);
        fault("L19W893M83", NONE);
        fault("L19M", 4);
        fault("L19M9", 4);
        fault("L19M8", 5);
        fault("L19M84", 5);
        fault("L19M83", NONE);
        fault("L19M83M83", NONE);
        fault("L19M83 ", 6);
        fault("L19M80W800W000M80", NONE);
        fault("L19M80W800W000M80W80", 18);
        manyParts();
    }

    private static void manyParts() {
        String five = "W000W100W200W300W400";
        String six = "M00M00M00M00M00M00";
        fault("L19" + five, NONE);
        fault("L19" + five + "W", 23);
        fault("L19" + five + "W5", 23);
        fault("L19" + six, NONE);
        fault("L19" + six + "M", 21);
        fault("L19" + six + five, NONE);
        fault("L19" + five + six + "W", 41);
        fault("L19" + five + six + "M", 41);
        fault("L19" + five + six + "000000000000000", 41);
        fault("X19" + five + six + "000000000000000", 0);
        for (int letter = 0; letter < 256; letter++) {
            LampMoths x = new LampMoths();
            x.write(letter);
            DUE.is("fault of the byte " + letter, x.fault(), letter == 'L' ? 1 : 0);
        }
    }

    private static void streets() {
        LampMoths x = new LampMoths();
        Due.tell(x, "L24M13W372M82W061");
        DUE.is("street", x.street(), 22);
        DUE.is("windows", x.about(0), 2);
        DUE.is("moths", x.about(1), 2);
        DUE.is("wind", x.about(2), 2);
        DUE.is("honey", x.about(3), 4);
        DUE.is("place of 0", x.window(0, 0), 3);
        DUE.is("burns of 0", x.window(0, 1), 7);
        DUE.is("kind of 0", x.window(0, 2), 2);
        DUE.is("place of 1", x.window(1, 0), 0);
        DUE.is("burns of 1", x.window(1, 1), 6);
        DUE.is("kind of 1", x.window(1, 2), 1);
        DUE.is("moth 0 sits", x.moth(0, 0), 1);
        DUE.is("moth 0 kind", x.moth(0, 1), 3);
        DUE.is("moth 1 sits", x.moth(1, 0), 8);
        DUE.is("moth 1 kind", x.moth(1, 1), 2);
        DUE.is("the text stays", x.about(10), 17);
        x.wipe();
        String before = Due.seen(x);
        DUE.is("a street of nothing", x.street(), LampMoths.LATE);
        DUE.holds("a refused street changes nothing", before.equals(Due.seen(x)));
        Due.tell(x, "L19");
        DUE.is("an empty street", x.street(), 0);
        DUE.is("no windows", x.window(0, 0), LampMoths.UNKNOWN);
    }

    private static void streetsLeaveAndTake() {
        LampMoths x = Due.streetOf("L19W050M20");
        x.seed(77);
        x.count(0, 1, 6);
        x.keep(0);
        x.keep(1);
        x.night();
        x.up(0);
        Due.tell(x, "L19W050M2");
        DUE.is("a text not at its end", x.street(), LampMoths.LATE);
        DUE.is("acts stay when refused", x.about(8), 2);
        DUE.is("the night stays when refused", x.about(4), 1);
        Due.tell(x, "L19W050M20");
        DUE.is("the same street anew", x.street(), 11);
        DUE.is("no acts", x.about(8), 0);
        DUE.is("nothing to undo", x.undo(), LampMoths.LATE);
        DUE.is("the night is 0", x.about(4), 0);
        DUE.is("nobody has paid", x.about(5), 0);
        DUE.is("window 0 has not paid", x.window(0, 4), 0);
        DUE.is("it burns as told", x.window(0, 1), 5);
        DUE.is("the moth is back", x.moth(0, 0), 2);
        DUE.is("slot 0 is gone", x.again(0), LampMoths.LATE);
        DUE.is("slot 1 is gone", x.again(1), LampMoths.LATE);
        DUE.is("counted stays", x.about(9), 1);
        DUE.is("the seed stays", x.seed(0), 77);
    }

    private static void abouts() {
        LampMoths x = Due.streetOf("L07W030W160W320W520M00M41");
        x.count(0, 0, 5);
        x.count(1, 0, 5);
        x.night();
        x.night();
        x.up(3);
        // Window 1 draws both all the time: 6 and 18, in each of two nights and now.
        int[] want = {4, 2, 0, 7, 2, 48, 24, 11, 3, 2, 25};
        for (int what = 0; what < want.length; what++) {
            DUE.is("about(" + what + ")", x.about(what), want[what]);
        }
        for (int what : new int[] {-1, 11, Integer.MIN_VALUE, Integer.MAX_VALUE}) {
            DUE.is("about(" + what + ")", x.about(what), LampMoths.BAD);
        }
    }

    private static void windows() {
        LampMoths x = Due.streetOf("L19W350W722W120M30M61M52");
        x.night();
        // Window 0 draws all three: it burns 5 and the big one is 3 off from it, 2 against 1 of window 1.
        int[] want = {3, 5, 0, 24, 24, 7, 1};
        for (int what = 0; what < want.length; what++) {
            DUE.is("window(0, " + what + ")", x.window(0, what), want[what]);
        }
        DUE.is("window 1 does not read", x.window(1, 6), 0);
        DUE.is("window 2 does not read", x.window(2, 6), 0);
        DUE.is("window(0, 7)", x.window(0, 7), LampMoths.BAD);
        DUE.is("window(0, -1)", x.window(0, -1), LampMoths.BAD);
        DUE.is("window(3, 0)", x.window(3, 0), LampMoths.UNKNOWN);
        DUE.is("window(-1, 0)", x.window(-1, 0), LampMoths.UNKNOWN);
        DUE.is("UNKNOWN is told ahead of BAD", x.window(3, 7), LampMoths.UNKNOWN);
        DUE.is("window(max, 0)", x.window(Integer.MAX_VALUE, 0), LampMoths.UNKNOWN);
        reading();
    }

    private static void reading() {
        DUE.is("3 is enough", Due.streetOf("L19W030W520").about(7), 1);
        DUE.is("beside one of 6", Due.streetOf("L19W000W160W220W320").about(7), 7);
        DUE.is("beside one of 5", Due.streetOf("L19W000W150W220").about(7), 2);
        DUE.is("beside a green one of 6", Due.streetOf("L19W001W161").about(7), 3);
        DUE.is("beside a widow of 4", Due.streetOf("L19W003W143").about(7), 2);
    }

    private static void moths() {
        LampMoths x = Due.streetOf("L19W050W450W820M20M81M33");
        DUE.is("moth(0, 0)", x.moth(0, 0), 2);
        DUE.is("moth(1, 1)", x.moth(1, 1), 1);
        DUE.is("moth 0 is shared", x.moth(0, 2), 3);
        DUE.is("its pull", x.moth(0, 3), 3);
        DUE.is("moth 1 is drawn by one", x.moth(1, 2), 4);
        DUE.is("its pull", x.moth(1, 3), 2);
        DUE.is("moth(3, 0)", x.moth(3, 0), LampMoths.UNKNOWN);
        DUE.is("moth(-1, 0)", x.moth(-1, 0), LampMoths.UNKNOWN);
        DUE.is("moth(0, 4)", x.moth(0, 4), LampMoths.BAD);
        DUE.is("moth(0, -1)", x.moth(0, -1), LampMoths.BAD);
        DUE.is("UNKNOWN is told ahead of BAD", x.moth(3, 4), LampMoths.UNKNOWN);
        LampMoths dark = Due.streetOf("L19W020W700M20");
        DUE.is("a pull of 0 draws nothing", dark.moth(0, 2), 0);
        DUE.is("a pull of 0", dark.moth(0, 3), 0);
        DUE.is("nobody owes for it", dark.about(6), 0);
        LampMoths bare = Due.streetOf("L19M20");
        DUE.is("no windows draw nothing", bare.moth(0, 2), 0);
        DUE.is("no windows, no pull", bare.moth(0, 3), 0);
    }

    private static void pull(String text, int want) {
        DUE.is("pull in " + text, Due.streetOf(text).pull(0, 0), want);
    }

    private static void pulls() {
        pull("L19W490M40", 9);
        pull("L19W490M80", 5);
        pull("L19W490M00", 5);
        pull("L19W420M80", 0);
        pull("L19W451M40", 2);
        pull("L19W452M40", 5);
        pull("L19W453M40", 7);
        pull("L19W403M40", 0);
        pull("L19W413M40", 3);
        pull("L19W411M40", 0);
        pull("L09W450M40", 5);
        pull("L09W450M50", 5);
        pull("L09W450M30", 4);
        pull("L29W450M40", 5);
        pull("L29W450M50", 4);
        pull("L29W450M30", 5);
        pull("L09W400M50", 0);
        pull("L29W403M30", 0);
        pull("L14W450M43", 8);
        pull("L15W450M43", 5);
        pull("L15W450M53", 4);
        pull("L14W450M40", 5);
        pull("L14W450M41", 5);
        pull("L14W450M42", 5);
        pull("L14W400M43", 0);
        pull("L14W411M43", 3);
        pull("L24W411M33", 3);
        pull("L14W410M83", 0);
        pull("L14W420M83", 1);
        LampMoths x = Due.streetOf("L19W450M40M50");
        DUE.is("pull(0, 1)", x.pull(0, 1), 4);
        DUE.is("pull(1, 0)", x.pull(1, 0), LampMoths.UNKNOWN);
        DUE.is("pull(-1, 0)", x.pull(-1, 0), LampMoths.UNKNOWN);
        DUE.is("pull(0, 2)", x.pull(0, 2), LampMoths.UNKNOWN);
        DUE.is("pull(0, -1)", x.pull(0, -1), LampMoths.UNKNOWN);
    }

    private static void owes(String text, int want, int all) {
        LampMoths x = Due.streetOf(text);
        DUE.is("window 0 owes in " + text, x.window(0, 3), want);
        DUE.is("all owe in " + text, x.about(6), all);
    }

    private static void taxes() {
        owes("L19W050M20", 6, 6);
        owes("L19W050M21", 18, 18);
        owes("L19W050M22", 0, 0);
        owes("L19W050M23", 6, 6);
        owes("L19W052M21", 9, 9);
        owes("L19W050W450M20", 3, 6);
        owes("L19W050W450M21", 9, 18);
        owes("L19W052W450M20", 1, 4);
        owes("L19W052W450M20M20", 3, 9);
        owes("L19W040W150W260W370M00", 1, 4);
        owes("L19W040W150W260W370M01", 4, 16);
        owes("L19W040W150W260W370W480M01", 3, 15);
        owes("L19W042W150W260M01M00M00", 5, 25);
        LampMoths x = Due.streetOf("L19W052W450M20M22M41");
        DUE.is("a silk one is drawn too", x.window(0, 5), 3);
        DUE.is("a shared one is drawn by both", x.window(1, 5), 7);
    }
}
