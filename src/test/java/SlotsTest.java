/** Promises 28 and 29: slots. */
public final class SlotsTest {
    private static final Due DUE = new Due("SlotsTest");

    public static void main(String[] args) {
        keeps();
        refusals();
        whatSlotsDoNotKeep();
        DUE.end();
    }

    private static void keeps() {
        LampMoths x = Due.streetOf("L14W050W452M20M13");
        x.night();
        x.undo();
        String first = Due.seen(x);
        DUE.is("keep(0)", x.keep(0), 0);
        x.night();
        x.night();
        x.up(0);
        x.down(1);
        x.blow(2);
        x.move(7);
        DUE.is("keep(1)", x.keep(1), 2);
        DUE.is("to keep leaves acts", x.about(8), 6);
        String second = Due.seenButActs(x);
        DUE.is("again(0)", x.again(0), 0);
        DUE.holds("all is as it was kept", first.equals(Due.seen(x)));
        DUE.is("no acts", x.undo(), LampMoths.LATE);
        DUE.is("again(1)", x.again(1), 2);
        DUE.is("no acts", x.about(8), 0);
        DUE.is("wind", x.about(2), 2);
        DUE.is("honey", x.about(3), 7);
        DUE.is("burns of 0", x.window(0, 1), 6);
        DUE.is("burns of 1", x.window(1, 1), 4);
        DUE.holds("all but the acts is as it was kept", second.equals(Due.seenButActs(x)));
        x.night();
        DUE.is("again(1) anew", x.again(1), 2);
        DUE.is("keep over it", x.keep(0), 2);
        DUE.is("again(0)", x.again(0), 2);
        DUE.is("honey", x.about(3), 7);
    }

    private static void refusals() {
        LampMoths x = Due.streetOf("L19W050M20");
        x.up(0);
        String before = Due.seen(x);
        DUE.is("keep(-1)", x.keep(-1), LampMoths.UNKNOWN);
        DUE.is("keep(2)", x.keep(2), LampMoths.UNKNOWN);
        DUE.is("again(-1)", x.again(-1), LampMoths.UNKNOWN);
        DUE.is("again(2)", x.again(2), LampMoths.UNKNOWN);
        DUE.is("again(0)", x.again(0), LampMoths.LATE);
        DUE.is("again(1)", x.again(1), LampMoths.LATE);
        x.keep(1);
        DUE.is("the other slot", x.again(0), LampMoths.LATE);
        DUE.holds("what is refused changes nothing", before.equals(Due.seen(x)));
        DUE.is("again(1)", x.again(1), 0);
    }

    private static void whatSlotsDoNotKeep() {
        LampMoths x = Due.streetOf("L19W050M20");
        x.keep(0);
        x.count(0, 1, 6);
        x.seed(9);
        x.wipe();
        x.again(0);
        DUE.is("counted stays", x.about(9), 1);
        DUE.is("the seed stays", x.seed(0), 9);
        DUE.is("the text stays", x.about(10), 0);
    }
}
