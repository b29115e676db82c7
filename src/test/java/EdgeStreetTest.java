/** The boundary cases of promises 6 to 9: what is seen of a street, pulls, taxes, who reads. */
public final class EdgeStreetTest {
    private static final Due DUE = new Due("EdgeStreetTest");

    public static void main(String[] args) {
        greenHalf();
        widowTwoMore();
        windCarries();
        sweetOnes();
        zeroAtLeast();
        zeroIfNothingBurns();
        drawnByOneOrMore();
        shared();
        taxByHowMany();
        catsHalf();
        reads();
        owes();
        about();
        window();
        windowUnknownAheadOfBad();
        moth();
        mothUnknownAheadOfBad();
        pullUnknown();
        DUE.end();
    }

    private static void pull(String text, int want) {
        DUE.is("pull in " + text, Due.streetOf(text).pull(0, 0), want);
    }

    // ---- PULL

    private static void greenHalf() {
        DUE.sentence("what it burns (GREEN: half, cut;");
        int[] halves = {0, 0, 1, 1, 2, 2, 3, 3, 4, 4};
        for (int burns = 0; burns <= 9; burns++) {
            pull("L19W4" + burns + "1M40", halves[burns]);
            pull("L19W4" + burns + "0M40", burns);
            pull("L19W4" + burns + "2M40", burns);
        }
    }

    private static void widowTwoMore() {
        DUE.sentence("WIDOW: 2 more, if it burns at all)");
        pull("L19W403M40", 0);
        for (int burns = 1; burns <= 9; burns++) {
            pull("L19W4" + burns + "3M40", burns + 2);
        }
    }

    private static void windCarries() {
        DUE.sentence("1 more, if the WIND carries it there (0: to lower PLACES than its own; 2: to higher ones)");
        int[][] wants = {{4, 5, 5}, {4, 5, 4}, {5, 5, 4}};
        for (int wind = 0; wind <= 2; wind++) {
            for (int seat = 3; seat <= 5; seat++) {
                pull("L" + wind + "9W450M" + seat + "0", wants[wind][seat - 3]);
            }
        }
        pull("L09W080M80", 1);
        pull("L19W080M80", 0);
        pull("L29W080M80", 0);
        pull("L09W880M00", 0);
        pull("L29W880M00", 1);
        pull("L29W890M00", 2);
        pull("L09W090M80", 2);
        pull("L09W070M80", 0);
    }

    private static void sweetOnes() {
        DUE.sentence("a SWEET one has 3 more for a WINDOW at whose PLACE HONEY is");
        for (int place = 0; place <= 8; place++) {
            for (int honey = 0; honey <= 9; honey++) {
                pull("L1" + honey + "W" + place + "50M" + place + "3", honey == place ? 8 : 5);
            }
            for (int kind = 0; kind <= 2; kind++) {
                pull("L1" + place + "W" + place + "50M" + place + kind, 5);
            }
        }
        // The honey is where the window is, not where the moth sits.
        pull("L14W550M43", 4);
        pull("L15W550M43", 7);
        pull("L28W893M73", 14);
    }

    private static void zeroAtLeast() {
        DUE.sentence("0 at least, and 0 if nothing burns there.");
        for (int burns = 1; burns <= 9; burns++) {
            pull("L19W0" + burns + "0M80", burns == 9 ? 1 : 0);
            pull("L19W8" + burns + "0M00", burns == 9 ? 1 : 0);
            pull("L10W0" + burns + "0M83", Math.max(0, burns - 5));
            pull("L08W0" + burns + "0M83", Math.max(0, burns - 7));
        }
    }

    private static void zeroIfNothingBurns() {
        DUE.sentence("0 at least, and 0 if nothing burns there.");
        for (int kind = 0; kind <= 3; kind++) {
            pull("L14W40" + kind + "M43", 0);
            pull("L24W40" + kind + "M33", 0);
            pull("L04W40" + kind + "M53", 0);
        }
        LampMoths x = Due.streetOf("L14W411M43");
        DUE.is("one that burns 1 has the honey's 3", x.pull(0, 0), 3);
        x.down(0);
        DUE.is("one that burns 0 has nothing", x.pull(0, 0), 0);
    }

    // ---- DRAWN, TAX

    private static void drawnByOneOrMore() {
        DUE.sentence("DRAWN is a MOTH by WINDOWS of greatest PULL, if that is 1 or more");
        LampMoths far = Due.streetOf("L19W080M81");
        DUE.is("a pull of 0", far.moth(0, 3), 0);
        DUE.is("draws nothing", far.moth(0, 2), 0);
        DUE.is("nothing is drawn by it", far.window(0, 5), 0);
        DUE.is("it owes nothing", far.window(0, 3), 0);
        LampMoths near = Due.streetOf("L19W090M81");
        DUE.is("a pull of 1", near.moth(0, 3), 1);
        DUE.is("draws", near.moth(0, 2), 1);
        DUE.is("it is drawn by it", near.window(0, 5), 1);
        DUE.is("it owes", near.window(0, 3), 18);
        LampMoths dark = Due.streetOf("L19W000W100W200W300W400M00");
        DUE.is("like pulls of 0 draw nothing", dark.moth(0, 2), 0);
        DUE.is("nobody owes", dark.about(6), 0);
        LampMoths bare = Due.streetOf("L19M00");
        DUE.is("no windows draw nothing", bare.moth(0, 2), 0);
        DUE.is("no windows pull with 0", bare.moth(0, 3), 0);
    }

    private static void shared() {
        DUE.sentence("one, or several: it is shared by them.");
        for (int windows = 1; windows <= 5; windows++) {
            LampMoths x = Due.streetOf("L19" + Edges.alike(windows) + "M00");
            DUE.is("all draw it", x.moth(0, 2), (1 << windows) - 1);
            DUE.is("the greatest pull", x.moth(0, 3), 4);
            x.up(windows - 1);
            DUE.is("the greatest alone draws it", x.moth(0, 2), 1 << windows - 1);
            x.undo();
            x.down(windows - 1);
            int left = windows == 1 ? 1 : (1 << windows - 1) - 1;
            DUE.is("all but one draw it", x.moth(0, 2), left);
        }
        LampMoths six = Due.streetOf("L19W090M00M11M22M33M80M41");
        DUE.is("one draws all six", six.window(0, 5), 63);
    }

    private static void taxByHowMany() {
        DUE.sentence("A WINDOW owes of each MOTH that it draws the TAX by how many draw it (cut)");
        int[][] parts = {{6, 3, 2, 1, 1}, {18, 9, 6, 4, 3}, {0, 0, 0, 0, 0}, {6, 3, 2, 1, 1}};
        for (int kind = 0; kind <= 3; kind++) {
            for (int windows = 1; windows <= 5; windows++) {
                LampMoths x = Due.streetOf("L19" + Edges.alike(windows) + "M0" + kind);
                int part = parts[kind][windows - 1];
                for (int window = 0; window < windows; window++) {
                    DUE.is("kind " + kind + " by " + windows, x.window(window, 3), part);
                }
                DUE.is("kind " + kind + " by " + windows + ", all", x.about(6), windows * part);
            }
        }
        LampMoths x = Due.streetOf("L19" + Edges.alike(4) + "M00M00M00");
        DUE.is("each moth is cut by itself", x.window(0, 3), 3);
    }

    private static void catOwes(String text, int want) {
        DUE.is("the cat's window in " + text, Due.streetOf(text).window(0, 3), want);
    }

    private static void catsHalf() {
        DUE.sentence("one with a CAT half of all that (cut, at last)");
        catOwes("L19W042", 0);
        catOwes("L19W042M02", 0);
        catOwes("L19W042M00", 3);
        catOwes("L19W042M01", 9);
        catOwes("L19W042W150M00", 1);
        catOwes("L19W042W150M00M00", 3);
        catOwes("L19W042W150M01", 4);
        catOwes("L19W042W150M01M01", 9);
        catOwes("L19W042W150W260W370M00", 0);
        catOwes("L19W042W150W260W370M00M00", 1);
        catOwes("L19W042W150W260W370M00M00M00", 1);
        catOwes("L19W042M01M01M01M01M01M01", 54);
    }

    // ---- READS, OWES

    private static void readers(String text, int want) {
        DUE.is("who reads in " + text, Due.streetOf(text).about(7), want);
    }

    private static void reads() {
        DUE.sentence("a WINDOW can read, if it burns 3 or more, or its PLACE is no more than 1 off from that of one "
                + "that burns 6 or more.");
        readers("L19", 0);
        for (int burns = 0; burns <= 9; burns++) {
            for (int kind = 0; kind <= 3; kind++) {
                readers("L19W4" + burns + kind, burns >= 3 ? 1 : 0);
                int own = burns >= 3 ? 2 : 0;
                int beside = burns >= 6 ? 1 : 0;
                readers("L19W40" + kind + "W5" + burns + kind, own + beside);
                readers("L19W42" + kind + "W3" + burns + kind, own + beside);
                readers("L19W42" + kind + "W6" + burns + kind, own);
                readers("L19W40" + kind + "W2" + burns + kind, own);
            }
        }
        readers("L19W000W890", 2);
        readers("L19W000W160W220W320W460", 31);
        LampMoths x = Due.streetOf("L19W020W150");
        DUE.is("window(0, 6)", x.window(0, 6), 0);
        x.up(1);
        DUE.is("beside one of 6", x.window(0, 6), 1);
        x.undo();
        x.up(0);
        DUE.is("with 3 of its own", x.window(0, 6), 1);
    }

    private static void owes() {
        DUE.sentence("OWES: what it owes now; all together.");
        DUE.is("no windows", Due.streetOf("L19M00").about(6), 0);
        DUE.is("no moths", Due.streetOf("L19W090").about(6), 0);
        DUE.is("the most", Due.streetOf("L19W090M01M01M01M01M01M01").about(6), 108);
        DUE.is("the most, of one", Due.streetOf("L19W090M01M01M01M01M01M01").window(0, 3), 108);
    }

    // ---- promises 6 to 9

    private static void about() {
        DUE.sentence("who READS (7: bits), ACTS (8), COUNTED (9), bytes of THE TEXT (10). BAD.");
        for (int what : Edges.INTS) {
            if (!Edges.isIn(what, 0, 10)) {
                Edges.leavesAll(DUE, "about(" + what + ")", x -> x.about(what), LampMoths.BAD);
            }
        }
        // 7 of the 14 acts are nights, in each of which window 0 pays 6 and 18; the cat's window is dark.
        int[] full = {2, 2, 1, 6, 7, 168, 24, 1, 14, 6, 56};
        int[] least = {0, 0, 1, 9, 0, 0, 0, 0, 0, 0, 0};
        for (int what = 0; what <= 10; what++) {
            DUE.is("about(" + what + ") of a full one", Edges.brim().about(what), full[what]);
            DUE.is("about(" + what + ") of a new one", Edges.fresh().about(what), least[what]);
        }
    }

    private static LampMoths windows(int many) {
        return Due.streetOf("L19" + Edges.alike(many) + "M00M01M02");
    }

    private static LampMoths moths(int many) {
        return Due.streetOf("L19W090" + "M00".repeat(many));
    }

    private static void window() {
        DUE.sentence("MOTHS that it draws (5: bits), 1 if it READS (6). UNKNOWN; BAD.");
        for (int many = 0; many <= 5; many++) {
            for (int window : Edges.INTS) {
                boolean there = Edges.isIn(window, 0, many - 1);
                DUE.is("window(" + window + ", 1) of " + many, windows(many).window(window, 1),
                        there ? 4 + window : LampMoths.UNKNOWN);
            }
        }
        for (int what : Edges.INTS) {
            if (!Edges.isIn(what, 0, 6)) {
                for (int window = 0; window < 5; window++) {
                    int which = window;
                    Edges.leaves(DUE, "window(" + window + ", " + what + ")", Edges::busy, x -> x.window(which, what),
                            LampMoths.BAD);
                }
            }
        }
        int[] last = {4, 8, 0, 4, 0, 7, 1};
        for (int what = 0; what <= 6; what++) {
            DUE.is("window(4, " + what + ")", windows(5).window(4, what), last[what]);
        }
    }

    private static void windowUnknownAheadOfBad() {
        DUE.sentence("Of several what is told first.");
        for (int what : Edges.INTS) {
            Edges.leavesAll(DUE, "window(-1, " + what + ")", x -> x.window(-1, what), LampMoths.UNKNOWN);
            Edges.leavesAll(DUE, "window(5, " + what + ")", x -> x.window(5, what), LampMoths.UNKNOWN);
            Edges.leaves(DUE, "window(2, " + what + ")", Edges::brim, x -> x.window(2, what), LampMoths.UNKNOWN);
            Edges.leaves(DUE, "window(0, " + what + ")", Edges::fresh, x -> x.window(0, what), LampMoths.UNKNOWN);
        }
    }

    private static void moth() {
        DUE.sentence("WINDOWS that draw it (2: bits), the greatest PULL on it (3). UNKNOWN; BAD.");
        for (int many = 0; many <= 6; many++) {
            for (int moth : Edges.INTS) {
                boolean there = Edges.isIn(moth, 0, many - 1);
                DUE.is("moth(" + moth + ", 3) of " + many, moths(many).moth(moth, 3), there ? 9 : LampMoths.UNKNOWN);
            }
        }
        for (int what : Edges.INTS) {
            if (!Edges.isIn(what, 0, 3)) {
                for (int moth = 0; moth < 6; moth++) {
                    int which = moth;
                    Edges.leaves(DUE, "moth(" + moth + ", " + what + ")", Edges::busy, x -> x.moth(which, what),
                            LampMoths.BAD);
                }
            }
        }
        int[] last = {8, 3, 16, 5};
        for (int what = 0; what <= 3; what++) {
            LampMoths x = Due.streetOf("L19W000W100W200W300W490M00M00M00M00M00M83");
            DUE.is("moth(5, " + what + ")", x.moth(5, what), last[what]);
        }
    }

    private static void mothUnknownAheadOfBad() {
        DUE.sentence("Of several what is told first.");
        for (int what : Edges.INTS) {
            Edges.leavesAll(DUE, "moth(-1, " + what + ")", x -> x.moth(-1, what), LampMoths.UNKNOWN);
            Edges.leavesAll(DUE, "moth(6, " + what + ")", x -> x.moth(6, what), LampMoths.UNKNOWN);
            Edges.leaves(DUE, "moth(2, " + what + ")", Edges::brim, x -> x.moth(2, what), LampMoths.UNKNOWN);
            Edges.leaves(DUE, "moth(0, " + what + ")", Edges::fresh, x -> x.moth(0, what), LampMoths.UNKNOWN);
        }
    }

    private static void pullUnknown() {
        DUE.sentence("PULL. UNKNOWN: window, moth.");
        for (int window : Edges.INTS) {
            for (int moth : Edges.INTS) {
                if (!Edges.isIn(window, 0, 4) || !Edges.isIn(moth, 0, 5)) {
                    Edges.leavesAll(DUE, "pull(" + window + ", " + moth + ")", x -> x.pull(window, moth),
                            LampMoths.UNKNOWN);
                }
            }
        }
        LampMoths x = Due.streetOf("L19W000W100W200W300W490M00M00M00M00M00M83");
        DUE.is("pull(4, 5)", x.pull(4, 5), 5);
        DUE.is("pull(0, 0)", x.pull(0, 0), 0);
        DUE.is("no window", Due.streetOf("L19M00").pull(0, 0), LampMoths.UNKNOWN);
        DUE.is("no moth", Due.streetOf("L19W000").pull(0, 0), LampMoths.UNKNOWN);
    }
}
