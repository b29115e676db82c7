/** The boundary cases of promises 28 and 29: slots. */
public final class EdgeSlotsTest {
    private static final Due DUE = new Due("EdgeSlotsTest");

    public static void main(String[] args) {
        keepUnknown();
        againUnknown();
        againLate();
        eachForItself();
        whatIsKept();
        keepsAllOfANight();
        noActsWhenOneGoesOn();
        keptMoreThanOnce();
        keptIsGone();
        emptyStreet();
        DUE.end();
    }

    private static LampMoths street() {
        return Due.streetOf("L14W050W452M20M13");
    }

    private static void keepUnknown() {
        DUE.sentence("They are kept: THE NIGHT. UNKNOWN.");
        for (int slot : Edges.INTS) {
            if (!Edges.isIn(slot, 0, 1)) {
                Edges.leavesAll(DUE, "keep(" + slot + ")", x -> x.keep(slot), LampMoths.UNKNOWN);
            }
        }
        DUE.is("keep(0)", Edges.brim().keep(0), 7);
        DUE.is("keep(1)", Edges.brim().keep(1), 7);
        DUE.is("new keep(0)", Edges.fresh().keep(0), 0);
        DUE.is("new keep(1)", Edges.fresh().keep(1), 0);
    }

    private static void againUnknown() {
        DUE.sentence("They are as they were kept: THE NIGHT. UNKNOWN; LATE: none were kept.");
        for (int slot : Edges.INTS) {
            if (!Edges.isIn(slot, 0, 1)) {
                Edges.leavesAll(DUE, "again(" + slot + ")", x -> x.again(slot), LampMoths.UNKNOWN);
            }
        }
        DUE.is("again(0)", Edges.brim().again(0), 0);
        DUE.is("again(1)", Edges.brim().again(1), 7);
    }

    private static LampMoths acted() {
        LampMoths x = street();
        x.up(0);
        x.night();
        x.seed(5);
        x.count(0, 1, 3);
        return x;
    }

    private static void againLate() {
        DUE.sentence("UNKNOWN; LATE: none were kept.");
        for (int slot = 0; slot <= 1; slot++) {
            int which = slot;
            Edges.leaves(DUE, "new again(" + slot + ")", Edges::fresh, x -> x.again(which), LampMoths.LATE);
            Edges.leaves(DUE, "again(" + slot + ")", EdgeSlotsTest::acted, x -> x.again(which), LampMoths.LATE);
        }
    }

    private static void eachForItself() {
        DUE.sentence("SLOTS 0 .. 1 keep");
        for (int slot = 0; slot <= 1; slot++) {
            int other = 1 - slot;
            int which = slot;
            Edges.Made kept = () -> {
                LampMoths x = acted();
                x.keep(which);
                x.night();
                return x;
            };
            Edges.leaves(DUE, "again(" + other + ") of the empty one", kept, x -> x.again(other), LampMoths.LATE);
            LampMoths x = kept.anew();
            DUE.is("again(" + slot + ")", x.again(slot), 1);
            DUE.is("the night", x.about(4), 1);
            x.night();
            x.night();
            DUE.is("keep(" + other + ")", x.keep(other), 3);
            DUE.is("again(" + slot + ")", x.again(slot), 1);
            DUE.is("again(" + other + ")", x.again(other), 3);
        }
    }

    private static void whatIsKept() {
        DUE.sentence("keep how all burn, where MOTHS sit, WIND, HONEY, what was PAID, THE NIGHT");
        Edges.Call[] changes = {x -> x.up(0), x -> x.down(4), x -> x.blow(0), x -> x.blow(2), x -> x.move(9),
            x -> x.move(0), LampMoths::night};
        for (int slot = 0; slot <= 1; slot++) {
            for (int change = 0; change < changes.length; change++) {
                LampMoths x = Edges.busy();
                String before = Due.seenButActs(x);
                DUE.is("keep", x.keep(slot), 1);
                DUE.is("to keep leaves the acts", x.about(8), 3);
                DUE.holds("change " + change, changes[change].on(x) >= 0);
                DUE.is("again", x.again(slot), 1);
                DUE.same("all is as it was kept", Due.seenButActs(x), before);
            }
        }
    }

    private static void keepsAllOfANight() {
        DUE.sentence("keep how all burn, where MOTHS sit, WIND, HONEY, what was PAID, THE NIGHT");
        for (int slot = 0; slot <= 1; slot++) {
            LampMoths x = Edges.astir();
            int[] seats = {1, 3, 5, 7, 1, 7};
            int[] paid = {6, 9, 6, 9, 6};
            DUE.is("keep", x.keep(slot), 0);
            x.night();
            DUE.is("keep in the other", x.keep(1 - slot), 1);
            DUE.is("again", x.again(slot), 0);
            for (int moth = 0; moth < 6; moth++) {
                DUE.is("moth " + moth + " is back", x.moth(moth, 0), seats[moth]);
            }
            for (int window = 0; window < 5; window++) {
                DUE.is("window " + window + " has paid nothing", x.window(window, 4), 0);
            }
            DUE.is("again with the other", x.again(1 - slot), 1);
            for (int moth = 0; moth < 6; moth++) {
                DUE.is("moth " + moth + " has gone", x.moth(moth, 0), seats[moth] - 1);
            }
            for (int window = 0; window < 5; window++) {
                DUE.is("window " + window + " has paid", x.window(window, 4), paid[window]);
            }
        }
    }

    private static void noActsWhenOneGoesOn() {
        DUE.sentence("(no ACTS when one goes on)");
        for (int slot = 0; slot <= 1; slot++) {
            LampMoths x = Edges.brim();
            x.again(slot);
            DUE.is("acts", x.about(8), 0);
            DUE.is("undo", x.undo(), LampMoths.LATE);
            x.night();
            DUE.is("undo", x.undo(), 0);
            DUE.is("undo", x.undo(), LampMoths.LATE);
            DUE.is("counted stays", x.about(9), 6);
            DUE.is("the text stays", x.about(10), 56);
            DUE.is("the seed stays", x.seed(0), Long.MIN_VALUE);
        }
    }

    private static void keptMoreThanOnce() {
        DUE.sentence("They are as they were kept: THE NIGHT.");
        LampMoths x = street();
        for (int night = 0; night <= 20; night++) {
            DUE.is("keep over what was kept", x.keep(night % 2), night);
            x.night();
            DUE.is("again", x.again(night % 2), night);
            x.night();
            DUE.is("again, once more", x.again(night % 2), night);
            x.night();
        }
        DUE.is("again(0)", x.again(0), 20);
        DUE.is("again(1)", x.again(1), 19);
    }

    private static void keptIsGone() {
        DUE.sentence("what was kept is gone");
        LampMoths x = Edges.brim();
        Due.tell(x, "L19W090W802M13M81");
        x.street();
        DUE.is("again(0)", x.again(0), LampMoths.LATE);
        DUE.is("again(1)", x.again(1), LampMoths.LATE);
        x.keep(1);
        DUE.is("again(0)", x.again(0), LampMoths.LATE);
        DUE.is("again(1)", x.again(1), 0);
        LampMoths refused = Edges.brim();
        DUE.is("a street that is refused", refused.street(), LampMoths.LATE);
        DUE.is("leaves what was kept", refused.again(1), 7);
        DUE.is("leaves what was kept", refused.again(0), 0);
    }

    private static void emptyStreet() {
        DUE.sentence("They are kept: THE NIGHT.");
        LampMoths x = new LampMoths();
        x.night();
        x.blow(2);
        x.move(0);
        DUE.is("keep(1)", x.keep(1), 1);
        x.night();
        x.blow(0);
        x.move(8);
        DUE.is("again(1)", x.again(1), 1);
        DUE.is("the wind", x.about(2), 2);
        DUE.is("the honey", x.about(3), 0);
    }
}
