/** The boundary cases of promises 1 to 5: a new object, the text, its fault, the street that it tells. */
public final class EdgeTextTest {
    private static final int NONE = LampMoths.NONE;
    private static final Due DUE = new Due("EdgeTextTest");

    public static void main(String[] args) {
        noWindowsNoMoths();
        atFirst();
        aByte();
        writeBad();
        writeFull();
        writeBadAheadOfFull();
        wipe();
        firstByte();
        wind();
        honey();
        partsNoneOrMore();
        windowPlace();
        whereNoneIsToldYet();
        windowBurns();
        windowKind();
        mothPlace();
        mothKind();
        fiveWindows();
        sixMoths();
        firstFault();
        onlyNotAtItsEnd();
        lengthSetAside();
        streetLate();
        streetAnswers();
        numberedAsTold();
        madeAnew();
        nothingOfALongerOne();
        noActsNothingKept();
        countedAndSeedStay();
        DUE.end();
    }

    // ---- promise 1

    private static void noWindowsNoMoths() {
        DUE.sentence("No windows, no moths.");
        LampMoths x = new LampMoths();
        DUE.is("windows", x.about(0), 0);
        DUE.is("moths", x.about(1), 0);
        DUE.is("window(0, 0)", x.window(0, 0), LampMoths.UNKNOWN);
        DUE.is("moth(0, 0)", x.moth(0, 0), LampMoths.UNKNOWN);
        DUE.is("pull(0, 0)", x.pull(0, 0), LampMoths.UNKNOWN);
    }

    private static void atFirst() {
        DUE.sentence("At first WIND is 1, HONEY is nowhere, there are no WINDOWS, no MOTHS.");
        LampMoths x = new LampMoths();
        DUE.is("wind", x.about(2), 1);
        DUE.is("honey", x.about(3), 9);
        for (int what : new int[] {0, 1, 4, 5, 6, 7, 8, 9, 10}) {
            DUE.is("about(" + what + ")", x.about(what), 0);
        }
        DUE.is("undo", x.undo(), LampMoths.LATE);
        DUE.is("again(0)", x.again(0), LampMoths.LATE);
        DUE.is("again(1)", x.again(1), LampMoths.LATE);
        DUE.is("honeys", x.honeys(), 1023);
        DUE.is("the seed", x.seed(1), 0);
    }

    // ---- promise 2

    private static void aByte() {
        DUE.sentence("A byte (0 .. 255) comes behind THE TEXT: how long it is.");
        for (int letter = 0; letter <= 255; letter++) {
            LampMoths x = new LampMoths();
            DUE.is("write(" + letter + ")", x.write(letter), 1);
            DUE.is("write(" + letter + ") again", x.write(letter), 2);
            DUE.is("bytes", x.about(10), 2);
        }
        LampMoths x = new LampMoths();
        x.write('L');
        x.write('2');
        x.write('8');
        DUE.is("each behind the other", x.fault(), NONE);
    }

    private static void writeBad() {
        DUE.sentence("BAD; FULL: there are 56.");
        for (int letter : Edges.INTS) {
            if (!Edges.isIn(letter, 0, 255)) {
                Edges.leaves(DUE, "write(" + letter + ")", Edges::busy, x -> x.write(letter), LampMoths.BAD);
                Edges.leaves(DUE, "first write(" + letter + ")", Edges::fresh, x -> x.write(letter), LampMoths.BAD);
            }
        }
        // Numbers whose last 8 bits are an L: they are no bytes all the same.
        for (int letter : new int[] {'L' + 256, 'L' - 256, 'L' + (1 << 16), Integer.MIN_VALUE + 'L'}) {
            Edges.leaves(DUE, "write(" + letter + ")", Edges::fresh, x -> x.write(letter), LampMoths.BAD);
        }
    }

    private static void writeFull() {
        DUE.sentence("THE TEXT is bytes (56 at most).");
        LampMoths x = new LampMoths();
        for (int n = 1; n <= 56; n++) {
            DUE.is("write the byte " + n, x.write('L'), n);
        }
        DUE.is("write the byte 57", x.write('L'), LampMoths.FULL);
        DUE.is("bytes", x.about(10), 56);
        DUE.is("wipe", x.wipe(), 56);
        DUE.is("write behind nothing", x.write('L'), 1);
        for (int letter : new int[] {0, 'L', '0', 255}) {
            Edges.leaves(DUE, "full write(" + letter + ")", Edges::brim, y -> y.write(letter), LampMoths.FULL);
        }
    }

    private static void writeBadAheadOfFull() {
        DUE.sentence("BAD; FULL: there are 56.");
        for (int letter : Edges.INTS) {
            if (!Edges.isIn(letter, 0, 255)) {
                Edges.leaves(DUE, "full write(" + letter + ")", Edges::brim, x -> x.write(letter), LampMoths.BAD);
            }
        }
    }

    // ---- promise 3

    private static void wipe() {
        DUE.sentence("THE TEXT is empty: how long it was.");
        for (int bytes = 0; bytes <= 56; bytes++) {
            LampMoths x = new LampMoths();
            for (int n = 0; n < bytes; n++) {
                x.write('M');
            }
            DUE.is("wipe of " + bytes, x.wipe(), bytes);
            DUE.is("bytes", x.about(10), 0);
            DUE.is("wipe of nothing", x.wipe(), 0);
            DUE.is("fault of nothing", x.fault(), 0);
        }
        LampMoths x = Edges.busy();
        x.wipe();
        DUE.is("the windows stay", x.about(0), 5);
        DUE.is("the moths stay", x.about(1), 6);
        DUE.is("the acts stay", x.about(8), 3);
    }

    // ---- promise 4

    /** Behind what was begun these bytes may come, and of all 256 no others. */
    private static void mayFollow(String begun, String letters) {
        for (int letter = 0; letter <= 255; letter++) {
            LampMoths x = new LampMoths();
            Due.tell(x, begun);
            x.write(letter);
            boolean told = x.fault() == begun.length();
            DUE.holds("behind " + begun + " the byte " + letter + " is told", told == (letters.indexOf(letter) < 0));
        }
    }

    private static void fault(String text, int want) {
        LampMoths x = new LampMoths();
        Due.tell(x, text);
        DUE.is("fault of " + text, x.fault(), want);
    }

    private static void firstByte() {
        DUE.sentence("A STREET is a TEXT: L, WIND");
        mayFollow("", "L");
        fault("L19L", 3);
    }

    private static void wind() {
        DUE.sentence("WIND (0: from above, 1: none, 2: from below)");
        mayFollow("L", "012");
        for (int wind = 0; wind <= 2; wind++) {
            DUE.is("wind", Due.streetOf("L" + wind + "9").about(2), wind);
        }
    }

    private static void honey() {
        DUE.sentence("HONEY (0 .. 8 its PLACE, 9: nowhere)");
        mayFollow("L0", "0123456789");
        for (int honey = 0; honey <= 9; honey++) {
            DUE.is("honey", Due.streetOf("L1" + honey).about(3), honey);
        }
    }

    private static void partsNoneOrMore() {
        DUE.sentence("then PARTS, none or more");
        fault("L19", NONE);
        mayFollow("L19", "WM");
        mayFollow("L19W000", "WM");
        mayFollow("L19M00", "WM");
        mayFollow("L19M00W000M00", "WM");
    }

    private static void windowPlace() {
        DUE.sentence("a WINDOW at PLACE p (0 .. 8, where none is told yet)");
        mayFollow("L19W", "012345678");
        for (int place = 0; place <= 8; place++) {
            DUE.is("its place", Due.streetOf("L19W" + place + "00").window(0, 0), place);
        }
    }

    private static void whereNoneIsToldYet() {
        DUE.sentence("a WINDOW at PLACE p (0 .. 8, where none is told yet)");
        mayFollow("L19W000W", "12345678");
        mayFollow("L19W800W", "01234567");
        mayFollow("L19W000W100W200W300W", "45678");
        mayFollow("L19W800W700W600W500W", "01234");
        mayFollow("L19W000M40W800W", "1234567");
        // Only windows take a place: honey and moths may be there, and several moths.
        mayFollow("L14M40W", "012345678");
        fault("L14M40M40W400M40", NONE);
    }

    private static void windowBurns() {
        DUE.sentence("that burns b (0 .. 9)");
        mayFollow("L19W8", "0123456789");
        for (int burns = 0; burns <= 9; burns++) {
            DUE.is("it burns", Due.streetOf("L19W0" + burns + "0").window(0, 1), burns);
        }
    }

    private static void windowKind() {
        DUE.sentence("of KIND k (0 PLAIN, 1 GREEN, 2 CAT, 3 WIDOW)");
        mayFollow("L19W89", "0123");
        for (int kind = 0; kind <= 3; kind++) {
            DUE.is("its kind", Due.streetOf("L19W00" + kind).window(0, 2), kind);
        }
    }

    private static void mothPlace() {
        DUE.sentence("a MOTH that sits at PLACE p (0 .. 8)");
        mayFollow("L19M", "012345678");
        mayFollow("L19M00M80M", "012345678");
        for (int place = 0; place <= 8; place++) {
            DUE.is("it sits", Due.streetOf("L19M" + place + "0").moth(0, 0), place);
        }
    }

    private static void mothKind() {
        DUE.sentence("of KIND k (0 PLAIN, 1 BIG, 2 SILK, 3 SWEET)");
        mayFollow("L19M8", "0123");
        for (int kind = 0; kind <= 3; kind++) {
            DUE.is("its kind", Due.streetOf("L19M0" + kind).moth(0, 1), kind);
        }
    }

    private static void fiveWindows() {
        DUE.sentence("WINDOWS are 0, 1, .. (5 at most)");
        fault("L19" + Edges.FIVE_WINDOWS, NONE);
        mayFollow("L19W053W242W391W580", "WM");
        mayFollow("L19" + Edges.FIVE_WINDOWS, "M");
        mayFollow("L19" + Edges.FIVE_WINDOWS + "M00", "M");
        fault("L19" + Edges.FIVE_WINDOWS + "W800", 23);
    }

    private static void sixMoths() {
        DUE.sentence("MOTHS 0, 1, .. (6 at most)");
        fault("L19" + Edges.SIX_MOTHS, NONE);
        mayFollow("L19M03M21M52M73M81", "WM");
        mayFollow("L19" + Edges.SIX_MOTHS, "W");
        mayFollow("L19" + Edges.SIX_MOTHS + "W000", "W");
        mayFollow(Edges.LONGEST, "");
        fault("L19" + Edges.SIX_MOTHS + "M80", 21);
    }

    private static void firstFault() {
        DUE.sentence("FAULT: the place of the first byte by which THE TEXT can be no STREET, whatever came behind it");
        for (int at = 0; at < Edges.LONGEST.length(); at++) {
            String begun = Edges.LONGEST.substring(0, at);
            String rest = Edges.LONGEST.substring(at + 1);
            fault(begun + "x", at);
            fault(begun + "x" + rest, at);
            fault(begun + "xx" + rest, at);
            fault(begun + (char) 0 + rest, at);
            fault(begun + (char) 255 + rest, at);
        }
        fault("x".repeat(56), 0);
        fault(Edges.LONGEST.substring(0, 40) + "x".repeat(16), 40);
    }

    private static void onlyNotAtItsEnd() {
        DUE.sentence("its length, if it is only not at its end; NONE: none.");
        fault("", 0);
        for (int length = 1; length < 3; length++) {
            fault(Edges.LONGEST.substring(0, length), length);
        }
        for (int length = 3; length <= Edges.LONGEST.length(); length++) {
            boolean atEnd = length <= 23 ? (length - 3) % 4 == 0 : (length - 23) % 3 == 0;
            fault(Edges.LONGEST.substring(0, length), atEnd ? NONE : length);
        }
    }

    private static void lengthSetAside() {
        DUE.sentence("(its length set aside)");
        fault(Edges.LONGEST, NONE);
        for (int more = 1; more <= 15; more++) {
            fault(Edges.LONGEST + "0".repeat(more), 41);
            fault(Edges.LONGEST + "W".repeat(more), 41);
            fault(Edges.LONGEST + "M".repeat(more), 41);
        }
    }

    // ---- promise 5

    private static LampMoths busyWith(String text) {
        LampMoths x = Edges.busy();
        Due.tell(x, text);
        return x;
    }

    private static void streetLate() {
        DUE.sentence("LATE: a FAULT.");
        String[] texts = {"", "L", "L1", "L19W", "L19W0", "L19W00", "L19M", "L19M0", "l19", "L39", "L19W900", "L19W004",
            "L19M90", "L19M04", "L19W000W000", "L19" + Edges.FIVE_WINDOWS + "W800", Edges.LONGEST + "M", "L19 "};
        for (String text : texts) {
            Edges.leaves(DUE, "street of " + text, () -> busyWith(text), LampMoths::street, LampMoths.LATE);
        }
        Edges.leaves(DUE, "street of 56 bytes", Edges::brim, LampMoths::street, LampMoths.LATE);
        Edges.leaves(DUE, "street of a new one", Edges::fresh, LampMoths::street, LampMoths.LATE);
    }

    private static void streetAnswers() {
        DUE.sentence("10 times WINDOWS, and MOTHS.");
        for (int windows = 0; windows <= 5; windows++) {
            for (int moths = 0; moths <= 6; moths++) {
                LampMoths x = new LampMoths();
                Due.tell(x, "L19" + "M83".repeat(moths) + Edges.alike(windows));
                DUE.is("street", x.street(), 10 * windows + moths);
                DUE.is("windows", x.about(0), windows);
                DUE.is("moths", x.about(1), moths);
                DUE.is("the text stays", x.fault(), NONE);
            }
        }
        LampMoths x = Due.streetOf(Edges.LONGEST);
        Due.tell(x, "L00");
        DUE.is("an empty street behind the longest", x.street(), 0);
        DUE.is("window 0 is gone", x.window(0, 0), LampMoths.UNKNOWN);
        DUE.is("moth 0 is gone", x.moth(0, 0), LampMoths.UNKNOWN);
        DUE.is("nobody owes", x.about(6), 0);
    }

    private static void numberedAsTold() {
        DUE.sentence("numbered as they are told, each kind for itself");
        LampMoths x = Due.streetOf("L19M83W800M02W032M41W443W111W720M70M11M23");
        int[] places = {8, 0, 4, 1, 7};
        int[] kinds = {0, 2, 3, 1, 0};
        for (int window = 0; window < 5; window++) {
            DUE.is("place of window " + window, x.window(window, 0), places[window]);
            DUE.is("kind of window " + window, x.window(window, 2), kinds[window]);
        }
        int[] seats = {8, 0, 4, 7, 1, 2};
        int[] sorts = {3, 2, 1, 0, 1, 3};
        for (int moth = 0; moth < 6; moth++) {
            DUE.is("seat of moth " + moth, x.moth(moth, 0), seats[moth]);
            DUE.is("kind of moth " + moth, x.moth(moth, 1), sorts[moth]);
        }
    }

    private static void madeAnew() {
        DUE.sentence("When THE STREET is made anew, THE NIGHT is 0, nobody has PAID.");
        Edges.Call[] asked = {LampMoths::fault, x -> x.dim(0, 0), x -> x.cheap(true), x -> x.moving(0),
            x -> x.judge(4, 0), x -> x.share(0, true), LampMoths::honeys, x -> x.rests(0, 1, 0),
            x -> x.clouds(5, 5, true), x -> x.weeks(30)};
        for (int call = 0; call < asked.length; call++) {
            LampMoths x = Edges.astir();
            x.night();
            x.night();
            // What is asked ahead of it leaves nothing behind that the new street could take up.
            asked[call].on(x);
            x.seed(0);
            for (int window = 0; window < 5; window++) {
                DUE.holds("window " + window + " has paid", x.window(window, 4) > 0);
            }
            DUE.is("street", x.street(), 56);
            DUE.is("the night", x.about(4), 0);
            DUE.is("paid", x.about(5), 0);
            for (int window = 0; window < 5; window++) {
                DUE.is("paid by " + window, x.window(window, 4), 0);
            }
            DUE.same("it is as told", Edges.whole(x), Edges.whole(Edges.astir()));
        }
    }

    private static void nothingOfALongerOne() {
        DUE.sentence("THE TEXT is THE STREET");
        String[] texts = {"L19", "L19W050", "L19M00", "L05W053M03", "L19W052W450M20", "L19W092W150W250M01",
            "L28W092W150W250W450M01M13M30", Edges.LONGEST};
        for (String text : texts) {
            LampMoths x = Due.streetOf("L05W092W181W273W360W452M01M11M21M31M41M53");
            Edges.answers(x);
            x.night();
            Due.tell(x, text);
            x.street();
            DUE.same("answers of " + text, Edges.answers(x), Edges.answers(Due.streetOf(text)));
            DUE.same("all of " + text, Edges.whole(x), Edges.whole(Due.streetOf(text)));
        }
    }

    private static void noActsNothingKept() {
        DUE.sentence("THE TEXT is THE STREET (no ACTS; what was kept is gone; COUNTED, THE SEED stay)");
        for (Edges.Made made : new Edges.Made[] {Edges::busy, Edges::brim}) {
            LampMoths x = made.anew();
            Due.tell(x, "L19");
            x.street();
            DUE.is("acts", x.about(8), 0);
            DUE.is("undo", x.undo(), LampMoths.LATE);
            DUE.is("again(0)", x.again(0), LampMoths.LATE);
            DUE.is("again(1)", x.again(1), LampMoths.LATE);
        }
    }

    private static void countedAndSeedStay() {
        DUE.sentence("THE TEXT is THE STREET (no ACTS; what was kept is gone; COUNTED, THE SEED stay)");
        LampMoths x = Edges.brim();
        DUE.is("counted", x.about(9), 6);
        Due.tell(x, "L19W090W800");
        x.street();
        DUE.is("counted", x.about(9), 6);
        DUE.is("what is counted is looked at", x.honeys(), 0);
        DUE.is("the seed", x.seed(0), Long.MIN_VALUE);
        LampMoths none = Due.streetOf("L19");
        none.street();
        DUE.is("nothing is counted", none.about(9), 0);
        DUE.is("the seed at first", none.seed(0), 0);
    }
}
