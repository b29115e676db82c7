/** Promises 10 to 15: acts. */
public final class ActsTest {
    private static final Due DUE = new Due("ActsTest");

    public static void main(String[] args) {
        ups();
        downs();
        blows();
        moves();
        nights();
        undos();
        fourteen();
        DUE.end();
    }

    private static void refused(LampMoths x, String call, int got, int want, String before) {
        DUE.is(call, got, want);
        DUE.holds(call + " changes nothing", before.equals(Due.seen(x)));
    }

    private static void ups() {
        LampMoths x = Due.streetOf("L19W070W300M00");
        DUE.is("up(0)", x.up(0), 8);
        DUE.is("up(0)", x.up(0), 9);
        DUE.is("up(1)", x.up(1), 1);
        DUE.is("burns of 0", x.window(0, 1), 9);
        DUE.is("burns of 1", x.window(1, 1), 1);
        DUE.is("acts", x.about(8), 3);
        String before = Due.seen(x);
        refused(x, "up of one that burns 9", x.up(0), LampMoths.LATE, before);
        refused(x, "up(2)", x.up(2), LampMoths.UNKNOWN, before);
        refused(x, "up(-1)", x.up(-1), LampMoths.UNKNOWN, before);
        refused(x, "up(max)", x.up(Integer.MAX_VALUE), LampMoths.UNKNOWN, before);
    }

    private static void downs() {
        LampMoths x = Due.streetOf("L19W020W390M00");
        DUE.is("down(0)", x.down(0), 1);
        DUE.is("down(0)", x.down(0), 0);
        DUE.is("down(1)", x.down(1), 8);
        DUE.is("acts", x.about(8), 3);
        String before = Due.seen(x);
        refused(x, "down of one that burns 0", x.down(0), LampMoths.LATE, before);
        refused(x, "down(2)", x.down(2), LampMoths.UNKNOWN, before);
        refused(x, "down(-1)", x.down(-1), LampMoths.UNKNOWN, before);
        refused(x, "down(min)", x.down(Integer.MIN_VALUE), LampMoths.UNKNOWN, before);
    }

    private static void blows() {
        LampMoths x = Due.streetOf("L09W050W450M20");
        DUE.is("drawn to lower places", x.moth(0, 2), 1);
        DUE.is("blow(2)", x.blow(2), 0);
        DUE.is("drawn to higher places", x.moth(0, 2), 2);
        DUE.is("blow(1)", x.blow(1), 2);
        DUE.is("drawn to both", x.moth(0, 2), 3);
        DUE.is("wind", x.about(2), 1);
        String before = Due.seen(x);
        refused(x, "blow(1) again", x.blow(1), LampMoths.LATE, before);
        refused(x, "blow(3)", x.blow(3), LampMoths.BAD, before);
        refused(x, "blow(-1)", x.blow(-1), LampMoths.BAD, before);
        DUE.is("acts", x.about(8), 2);
    }

    private static void moves() {
        LampMoths x = Due.streetOf("L19W050W450M23");
        DUE.is("move(4)", x.move(4), 9);
        DUE.is("drawn by honey", x.moth(0, 2), 2);
        DUE.is("move(0)", x.move(0), 4);
        DUE.is("drawn by honey", x.moth(0, 2), 1);
        DUE.is("move(8)", x.move(8), 0);
        DUE.is("move(9)", x.move(9), 8);
        DUE.is("honey", x.about(3), 9);
        String before = Due.seen(x);
        refused(x, "move(9) again", x.move(9), LampMoths.LATE, before);
        refused(x, "move(10)", x.move(10), LampMoths.BAD, before);
        refused(x, "move(-1)", x.move(-1), LampMoths.BAD, before);
        DUE.is("acts", x.about(8), 4);
    }

    private static void nights() {
        // Window 0 is at 6 and window 1 at 2: moth 0 between them goes to the least by number.
        LampMoths x = Due.streetOf("L19W650W250M40M21M82M00");
        DUE.is("night", x.night(), 30);
        DUE.is("a shared one goes to window 0", x.moth(0, 0), 5);
        DUE.is("one that sits there stays", x.moth(1, 0), 2);
        DUE.is("a silk one goes too", x.moth(2, 0), 7);
        DUE.is("one goes to higher places", x.moth(3, 0), 1);
        DUE.is("window 0 has paid", x.window(0, 4), 3);
        DUE.is("window 1 has paid", x.window(1, 4), 27);
        DUE.is("the night", x.about(4), 1);
        DUE.is("acts", x.about(8), 1);
        DUE.is("a second night", x.night(), 30);
        DUE.is("all have paid", x.about(5), 60);
        DUE.is("window 0 has paid for moth 0 alone", x.window(0, 4), 9);
        DUE.is("moth 0 sits", x.moth(0, 0), 6);
        DUE.is("night", x.night(), 30);
        DUE.is("moth 0 stays", x.moth(0, 0), 6);
        DUE.is("the night", x.about(4), 3);
        LampMoths far = Due.streetOf("L19W010M80");
        DUE.is("a night of nothing", far.night(), 0);
        DUE.is("one not drawn stays", far.moth(0, 0), 8);
        DUE.is("the night", far.about(4), 1);
    }

    private static void undos() {
        LampMoths x = Due.streetOf("L14W050W452M20M13");
        String[] seen = new String[5];
        for (int act = 0; act < 5; act++) {
            seen[act] = Due.seen(x);
            doAct(x, act);
            DUE.is("acts", x.about(8), act + 1);
        }
        for (int left = 4; left >= 0; left--) {
            DUE.is("undo", x.undo(), left);
            DUE.same("undone " + left, Due.seen(x), seen[left]);
        }
        DUE.is("undo of nothing", x.undo(), LampMoths.LATE);
        DUE.holds("undo of nothing changes nothing", seen[0].equals(Due.seen(x)));
        x.up(0);
        x.undo();
        DUE.is("acts behind an undone one", x.down(0), 4);
        DUE.is("acts", x.about(8), 1);
    }

    private static void doAct(LampMoths x, int act) {
        switch (act) {
            case 0: x.up(1); break;
            case 1: x.down(0); break;
            case 2: x.blow(2); break;
            case 3: x.move(0); break;
            default: x.night(); break;
        }
    }

    private static void fourteen() {
        LampMoths x = Due.streetOf("L19W000W390M33");
        for (int n = 1; n <= 9; n++) {
            DUE.is("up", x.up(0), n);
        }
        for (int n = 1; n <= 9; n++) {
            DUE.is("down", x.down(1), 9 - n);
            DUE.is("acts", x.about(8), Math.min(14, 9 + n));
        }
        for (int left = 13; left >= 0; left--) {
            DUE.is("undo", x.undo(), left);
        }
        DUE.is("the first four are forgotten", x.window(0, 1), 4);
        DUE.is("window 1 burns as at first", x.window(1, 1), 9);
        DUE.is("no more to undo", x.undo(), LampMoths.LATE);
        for (int n = 0; n < 20; n++) {
            x.night();
        }
        for (int n = 0; n < 14; n++) {
            x.undo();
        }
        DUE.is("six nights can not be undone", x.about(4), 6);
        DUE.is("nor what was paid", x.about(5), 36);
    }
}
