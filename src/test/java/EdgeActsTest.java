/** The boundary cases of promises 10 to 15: lamps turned, the wind, honey moved, nights, all undone. */
public final class EdgeActsTest {
    private static final Due DUE = new Due("EdgeActsTest");

    public static void main(String[] args) {
        upLate();
        upUnknown();
        downLate();
        downUnknown();
        blowBad();
        blowLate();
        moveBad();
        moveLate();
        nightOfNothing();
        nightPaysAsOwed();
        nightNearer();
        nightIfItDoesNotSitThere();
        nightLeastByNumber();
        nightIsOneMore();
        undoLate();
        undoesTheLast();
        undoesAllOfANight();
        firstIsForgotten();
        fullRowOfEachKind();
        refusedIsNoAct();
        lastCallOfAll();
        DUE.end();
    }

    // ---- promises 10, 11

    private static LampMoths burning(int burns) {
        return Due.streetOf("L19W4" + burns + "0W0" + (9 - burns) + "0M40");
    }

    private static void upLate() {
        DUE.sentence("TURNED up: what it burns. UNKNOWN; LATE: it burns 9.");
        for (int burns = 0; burns <= 8; burns++) {
            LampMoths x = burning(burns);
            DUE.is("up of one that burns " + burns, x.up(0), burns + 1);
            DUE.is("it burns", x.window(0, 1), burns + 1);
            DUE.is("the other burns", x.window(1, 1), 9 - burns);
            DUE.is("acts", x.about(8), 1);
        }
        Edges.leaves(DUE, "up of one that burns 9", () -> burning(9), x -> x.up(0), LampMoths.LATE);
        Edges.leaves(DUE, "busy up of one that burns 9", Edges::busy, x -> x.up(2), LampMoths.LATE);
        Edges.leaves(DUE, "full up of one that burns 9", Edges::brim, x -> x.up(0), LampMoths.LATE);
    }

    private static void upUnknown() {
        DUE.sentence("UNKNOWN -1 (there is no such WINDOW, MOTH, SLOT)");
        for (int window : Edges.INTS) {
            if (!Edges.isIn(window, 0, 4)) {
                Edges.leavesAll(DUE, "up(" + window + ")", x -> x.up(window), LampMoths.UNKNOWN);
            }
        }
        Edges.leaves(DUE, "up(2) of two", Edges::brim, x -> x.up(2), LampMoths.UNKNOWN);
        Edges.leaves(DUE, "up(0) of none", Edges::fresh, x -> x.up(0), LampMoths.UNKNOWN);
        DUE.is("up(4) of five", Edges.busy().up(4), 7);
    }

    private static void downLate() {
        DUE.sentence("TURNED down: what it burns. UNKNOWN; LATE: it burns 0.");
        for (int burns = 1; burns <= 9; burns++) {
            LampMoths x = burning(burns);
            DUE.is("down of one that burns " + burns, x.down(0), burns - 1);
            DUE.is("it burns", x.window(0, 1), burns - 1);
            DUE.is("the other burns", x.window(1, 1), 9 - burns);
            DUE.is("acts", x.about(8), 1);
        }
        Edges.leaves(DUE, "down of one that burns 0", () -> burning(0), x -> x.down(0), LampMoths.LATE);
        Edges.leaves(DUE, "full down of one that burns 0", Edges::brim, x -> x.down(1), LampMoths.LATE);
    }

    private static void downUnknown() {
        DUE.sentence("UNKNOWN -1 (there is no such WINDOW, MOTH, SLOT)");
        for (int window : Edges.INTS) {
            if (!Edges.isIn(window, 0, 4)) {
                Edges.leavesAll(DUE, "down(" + window + ")", x -> x.down(window), LampMoths.UNKNOWN);
            }
        }
        Edges.leaves(DUE, "down(2) of two", Edges::brim, x -> x.down(2), LampMoths.UNKNOWN);
        Edges.leaves(DUE, "down(0) of none", Edges::fresh, x -> x.down(0), LampMoths.UNKNOWN);
        DUE.is("down(4) of five", Edges.busy().down(4), 5);
    }

    // ---- promises 12, 13

    private static void blowBad() {
        DUE.sentence("BAD: wind (0 .. 2); LATE: it is that.");
        for (int wind : Edges.INTS) {
            if (!Edges.isIn(wind, 0, 2)) {
                Edges.leavesAll(DUE, "blow(" + wind + ")", x -> x.blow(wind), LampMoths.BAD);
            }
        }
    }

    private static void blowLate() {
        DUE.sentence("BLOWN: the WIND it was. BAD: wind (0 .. 2); LATE: it is that.");
        for (int is = 0; is <= 2; is++) {
            for (int wind = 0; wind <= 2; wind++) {
                String text = "L" + is + "9W050W450M20";
                int next = wind;
                if (wind == is) {
                    Edges.leaves(DUE, "blow(" + wind + ")", () -> Due.streetOf(text), x -> x.blow(next), LampMoths.LATE);
                } else {
                    LampMoths x = Due.streetOf(text);
                    DUE.is("blow(" + wind + ")", x.blow(wind), is);
                    DUE.is("the wind", x.about(2), wind);
                    DUE.is("acts", x.about(8), 1);
                }
            }
        }
        Edges.leaves(DUE, "full blow(1)", Edges::brim, x -> x.blow(1), LampMoths.LATE);
        Edges.leaves(DUE, "new blow(1)", Edges::fresh, x -> x.blow(1), LampMoths.LATE);
        DUE.is("new blow(0)", Edges.fresh().blow(0), 1);
    }

    private static void moveBad() {
        DUE.sentence("BAD: place (0 .. 9); LATE: it is there.");
        for (int place : Edges.INTS) {
            if (!Edges.isIn(place, 0, 9)) {
                Edges.leavesAll(DUE, "move(" + place + ")", x -> x.move(place), LampMoths.BAD);
            }
        }
    }

    private static void moveLate() {
        DUE.sentence("MOVED: where HONEY was. BAD: place (0 .. 9); LATE: it is there.");
        for (int is = 0; is <= 9; is++) {
            for (int place = 0; place <= 9; place++) {
                String text = "L1" + is + "W050W450M23";
                int next = place;
                if (place == is) {
                    Edges.leaves(DUE, "move(" + place + ")", () -> Due.streetOf(text), x -> x.move(next), LampMoths.LATE);
                } else {
                    LampMoths x = Due.streetOf(text);
                    DUE.is("move(" + place + ")", x.move(place), is);
                    DUE.is("the honey", x.about(3), place);
                    DUE.is("acts", x.about(8), 1);
                }
            }
        }
        Edges.leaves(DUE, "full move(6)", Edges::brim, x -> x.move(6), LampMoths.LATE);
        Edges.leaves(DUE, "new move(9)", Edges::fresh, x -> x.move(9), LampMoths.LATE);
        DUE.is("new move(8)", Edges.fresh().move(8), 9);
    }

    // ---- promise 14

    private static void nightOfNothing() {
        DUE.sentence("A NIGHT: what all have PAID in it.");
        for (String text : new String[] {"L19", "L19W090", "L19M00", "L19W000M00", "L19W080M80", "L19W090M02"}) {
            LampMoths x = Due.streetOf(text);
            DUE.is("a night in " + text, x.night(), 0);
            DUE.is("the night", x.about(4), 1);
            DUE.is("paid", x.about(5), 0);
            DUE.is("acts", x.about(8), 1);
            DUE.is("undo", x.undo(), 0);
            DUE.is("the night", x.about(4), 0);
        }
        LampMoths x = new LampMoths();
        DUE.is("a night of a new one", x.night(), 0);
        DUE.is("the night", x.about(4), 1);
    }

    private static void nightPaysAsOwed() {
        DUE.sentence("A NIGHT: each WINDOW has PAID as much more as it owes");
        // Moth 0 sits between both: 3 each in the first night, then window 0 draws it alone.
        LampMoths x = Due.streetOf("L19W050W450M20");
        DUE.is("the first night", x.night(), 6);
        DUE.is("window 0 has paid", x.window(0, 4), 3);
        DUE.is("window 1 has paid", x.window(1, 4), 3);
        DUE.is("the second night", x.night(), 6);
        DUE.is("window 0 has paid", x.window(0, 4), 9);
        DUE.is("window 1 has paid", x.window(1, 4), 3);
        DUE.is("all have paid", x.about(5), 12);
        DUE.is("the most of one night", Due.streetOf("L19W090M01M01M01M01M01M01").night(), 108);
        DUE.is("the most with a cat", Due.streetOf("L19W092M01M01M01M01M01M01").night(), 54);
    }

    private static void nightNearer() {
        DUE.sentence("each MOTH that is DRAWN then sits 1 PLACE nearer to the WINDOW that draws it");
        LampMoths down = Due.streetOf("L19W090M80M10");
        LampMoths up = Due.streetOf("L19W890M00M70");
        for (int night = 1; night <= 9; night++) {
            down.night();
            up.night();
            DUE.is("it sits, going down", down.moth(0, 0), Math.max(0, 8 - night));
            DUE.is("one beside it sits", down.moth(1, 0), 0);
            DUE.is("it sits, going up", up.moth(0, 0), Math.min(8, night));
            DUE.is("one beside it sits", up.moth(1, 0), 8);
        }
        LampMoths far = Due.streetOf("L19W080M80M70");
        far.night();
        DUE.is("one with a pull of 0 stays", far.moth(0, 0), 8);
        DUE.is("one with a pull of 1 goes", far.moth(1, 0), 6);
        LampMoths silk = Due.streetOf("L19W090M82");
        silk.night();
        DUE.is("one that is let off goes", silk.moth(0, 0), 7);
    }

    private static void nightIfItDoesNotSitThere() {
        DUE.sentence("if it does not sit there; THE NIGHT is one more.");
        for (int place = 0; place <= 8; place++) {
            LampMoths x = Due.streetOf("L19W" + place + "90M" + place + "0");
            DUE.is("night", x.night(), 6);
            DUE.is("it stays at " + place, x.moth(0, 0), place);
        }
        // Two windows draw it, and it sits at the lesser one's place: it does not go to the other.
        LampMoths x = Due.streetOf("L19W450W560M40");
        DUE.is("both draw it", x.moth(0, 2), 3);
        x.night();
        DUE.is("it stays", x.moth(0, 0), 4);
    }

    private static void nightLeastByNumber() {
        DUE.sentence("(of several the least by number)");
        LampMoths lower = Due.streetOf("L19W050W850M40");
        lower.night();
        DUE.is("window 0 is the lower one", lower.moth(0, 0), 3);
        LampMoths higher = Due.streetOf("L19W850W050M40");
        higher.night();
        DUE.is("window 0 is the higher one", higher.moth(0, 0), 5);
        LampMoths third = Due.streetOf("L19W300W850W050M40");
        third.night();
        DUE.is("window 0 draws nothing, 1 is the higher one", third.moth(0, 0), 5);
        LampMoths last = Due.streetOf("L19W700W600W500W850W050M40");
        last.night();
        DUE.is("window 3 is the higher one", last.moth(0, 0), 5);
        // It sits at window 1's place and goes away from it to window 0's.
        LampMoths away = Due.streetOf("L19W560W450M40");
        away.night();
        DUE.is("window 0 is the least", away.moth(0, 0), 5);
    }

    private static void nightIsOneMore() {
        DUE.sentence("THE NIGHT is one more.");
        LampMoths x = Due.streetOf("L19W090M01M01M01M01M01M01");
        for (int night = 1; night <= 100; night++) {
            DUE.is("night", x.night(), 108);
            DUE.is("the night", x.about(4), night);
            DUE.is("all have paid", x.about(5), 108 * night);
            DUE.is("window 0 has paid", x.window(0, 4), 108 * night);
        }
    }

    // ---- promise 15

    private static void undoLate() {
        DUE.sentence("The last ACT is undone: how many are left. LATE: there is none.");
        Edges.leaves(DUE, "undo of a new one", Edges::fresh, LampMoths::undo, LampMoths.LATE);
        Edges.leaves(DUE, "undo of a street", () -> Due.streetOf(Edges.LONGEST), LampMoths::undo, LampMoths.LATE);
        Edges.leaves(DUE, "undo behind again", EdgeActsTest::goneOn, LampMoths::undo, LampMoths.LATE);
        LampMoths x = Due.streetOf("L19W050");
        x.up(0);
        DUE.is("undo of the only one", x.undo(), 0);
        DUE.is("undo of none", x.undo(), LampMoths.LATE);
        DUE.is("it burns", x.window(0, 1), 5);
        x.down(0);
        DUE.is("undo of the next one", x.undo(), 0);
    }

    private static LampMoths goneOn() {
        LampMoths x = Edges.busy();
        x.again(0);
        return x;
    }

    private static void undoesTheLast() {
        DUE.sentence("the last one can be undone.");
        Edges.Call[] acts = {x -> x.up(1), x -> x.down(0), x -> x.blow(0), x -> x.blow(2), x -> x.move(0),
            x -> x.move(9), LampMoths::night};
        for (int act = 0; act < acts.length; act++) {
            LampMoths x = Edges.busy();
            DUE.holds("the act " + act + " can be", acts[act].on(x) >= 0);
            DUE.is("acts", x.about(8), 4);
            DUE.is("undo", x.undo(), 3);
            DUE.same("all is as ahead of the act " + act, Edges.whole(x), Edges.whole(Edges.busy()));
        }
    }

    private static void undoesAllOfANight() {
        DUE.sentence("the last one can be undone.");
        LampMoths x = Edges.astir();
        int[] seats = {1, 3, 5, 7, 1, 7};
        DUE.is("night", x.night(), 36);
        for (int moth = 0; moth < 6; moth++) {
            DUE.is("moth " + moth + " has gone", x.moth(moth, 0), seats[moth] - 1);
        }
        int[] paid = {6, 9, 6, 9, 6};
        for (int window = 0; window < 5; window++) {
            DUE.is("window " + window + " has paid", x.window(window, 4), paid[window]);
        }
        DUE.is("undo", x.undo(), 0);
        for (int moth = 0; moth < 6; moth++) {
            DUE.is("moth " + moth + " is back", x.moth(moth, 0), seats[moth]);
        }
        for (int window = 0; window < 5; window++) {
            DUE.is("window " + window + " has paid nothing", x.window(window, 4), 0);
        }
        DUE.is("the night", x.about(4), 0);
        DUE.is("all have paid nothing", x.about(5), 0);
    }

    private static void firstIsForgotten() {
        DUE.sentence("are a row (14 at most; when it is full, the first one is forgotten)");
        for (int nights = 0; nights <= 45; nights++) {
            LampMoths x = new LampMoths();
            for (int night = 0; night < nights; night++) {
                x.night();
            }
            int held = Math.min(14, nights);
            DUE.is("acts of " + nights, x.about(8), held);
            for (int left = held - 1; left >= 0; left--) {
                DUE.is("undo", x.undo(), left);
                DUE.is("the night", x.about(4), nights - held + left);
            }
            DUE.is("undo of none", x.undo(), LampMoths.LATE);
            DUE.is("the night", x.about(4), nights - held);
        }
    }

    private static void fullRowOfEachKind() {
        DUE.sentence("ACTS (TURNED, BLOWN, MOVED, NIGHTS) are a row (14 at most; when it is full, the first one is "
                + "forgotten)");
        Edges.Call[] acts = {x -> x.down(0), x -> x.up(1), x -> x.blow(0), x -> x.move(8), LampMoths::night};
        for (Edges.Call act : acts) {
            LampMoths x = Edges.brim();
            DUE.holds("the fifteenth can be", act.on(x) >= 0);
            DUE.is("acts", x.about(8), 14);
            DUE.is("undo the fifteenth", x.undo(), 13);
            DUE.is("honey is as ahead of it", x.about(3), 6);
            DUE.is("the night is as ahead of it", x.about(4), 7);
            for (int left = 12; left >= 0; left--) {
                DUE.is("undo", x.undo(), left);
            }
            // The first act, a night, can not be undone any more; the second, honey moved to 0, is.
            DUE.is("the night", x.about(4), 1);
            DUE.is("the honey", x.about(3), 9);
            DUE.is("undo of none", x.undo(), LampMoths.LATE);
        }
    }

    private static void refusedIsNoAct() {
        DUE.sentence("What is refused changes nothing.");
        LampMoths x = Edges.brim();
        x.up(0);
        x.down(1);
        x.blow(1);
        x.blow(3);
        x.move(6);
        x.move(10);
        x.up(2);
        x.again(2);
        DUE.is("acts", x.about(8), 14);
        for (int left = 13; left >= 0; left--) {
            DUE.is("undo", x.undo(), left);
        }
        DUE.is("the night", x.about(4), 0);
        DUE.is("the honey", x.about(3), 9);
    }

    // ---- the run

    private static void lastCallOfAll() {
        DUE.sentence("An object is used for at most 512 calls after it has been made");
        LampMoths x = new LampMoths();
        String text = "L19W090M01M01M01M01M01M01";
        int calls = 0;
        for (int at = 0; at < text.length(); at++) {
            DUE.is("write", x.write(text.charAt(at)), ++calls);
        }
        DUE.is("street", x.street(), 16);
        calls++;
        int paid = 0;
        while (calls < 511) {
            DUE.is("night, call " + calls, x.night(), 108);
            paid += 108;
            calls++;
        }
        DUE.is("the last call of all", x.about(5), paid);
    }
}
