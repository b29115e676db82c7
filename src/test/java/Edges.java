/** What the tests of boundary cases share: objects in chosen states, and a look at all that an object holds. */
final class Edges {
    /** Numbers at, and one beyond, the bounds that the document names, and the ends of the range. */
    static final int[] INTS = {
        Integer.MIN_VALUE, Integer.MIN_VALUE + 1, -256, -10, -9, -4, -3, -2, -1, 0, 1, 2, 3, 4, 5, 6, 7, 8, 9, 10, 11,
        14, 15, 30, 31, 56, 57, 99, 100, 255, 256, Integer.MAX_VALUE - 1, Integer.MAX_VALUE};

    static final String FIVE_WINDOWS = "W053W242W391W580W760";
    static final String SIX_MOTHS = "M03M21M52M73M81M40";
    /** The longest street that there can be: 41 bytes. */
    static final String LONGEST = "L15" + FIVE_WINDOWS + SIX_MOTHS;

    /** Five windows at PLACES 0 .. 4 that pull alike on a moth at PLACE 0: the first so many of them. */
    private static final String[] ALIKE = {"W040", "W150", "W260", "W370", "W480"};

    private Edges() {
    }

    /** A call, with its arguments. */
    interface Call {
        long on(LampMoths x);
    }

    /** A way to make an object anew in one state: what is done to one is not seen in the next. */
    interface Made {
        LampMoths anew();
    }

    static String alike(int windows) {
        StringBuilder all = new StringBuilder();
        for (int window = 0; window < windows; window++) {
            all.append(ALIKE[window]);
        }
        return all.toString();
    }

    static boolean isIn(int number, int least, int most) {
        return number >= least && number <= most;
    }

    /** Five windows, six moths, some of everything; its text is another street than the one that stands. */
    static LampMoths busy() {
        LampMoths x = Due.streetOf(LONGEST);
        x.night();
        x.keep(0);
        x.up(1);
        x.keep(1);
        x.move(7);
        x.count(0, 1, 6);
        x.count(1, 1, 9);
        x.seed(77);
        Due.tell(x, "L02W820M73");
        return x;
    }

    /** Every row is full: 56 bytes, 14 acts, 6 counted, both slots. */
    static LampMoths brim() {
        LampMoths x = Due.streetOf("L19W090W802M13M81");
        x.keep(0);
        for (int act = 0; act < 7; act++) {
            x.night();
            x.move(act);
        }
        x.keep(1);
        for (int n = 0; n < 6; n++) {
            x.count(n % 2, n % 3, n % 2 == 0 ? 6 : 0);
        }
        x.seed(Long.MIN_VALUE);
        x.wipe();
        for (int n = 0; n < 56; n++) {
            x.write("L19M00".charAt(Math.min(n, 5)));
        }
        return x;
    }

    static LampMoths fresh() {
        return new LampMoths();
    }

    /** All moths fly in a night of this one, and all windows pay. */
    static LampMoths astir() {
        return Due.streetOf("L19W030W230W430W630W830M10M30M50M70M10M70");
    }

    /** A new object whose street is told as that of the other one is now. */
    static LampMoths retold(LampMoths x) {
        StringBuilder text = new StringBuilder("L").append(x.about(2)).append(x.about(3));
        int windows = x.about(0);
        for (int window = 0; window < windows; window++) {
            text.append('W').append(x.window(window, 0)).append(x.window(window, 1)).append(x.window(window, 2));
        }
        int moths = x.about(1);
        for (int moth = 0; moth < moths; moth++) {
            text.append('M').append(x.moth(moth, 0)).append(x.moth(moth, 1));
        }
        return Due.streetOf(text.toString());
    }

    /** Behind acts, and behind a look at another text, the call answers as of a street that is told so. */
    static void answersAsNow(Due due, String call, Call asked) {
        for (Made made : new Made[] {Edges::busy, Edges::brim}) {
            LampMoths x = made.anew();
            x.fault();
            due.is(call + " of the street as it is", asked.on(x), asked.on(retold(made.anew())));
        }
    }

    /** All that an object holds, told by going through all of it: nothing else can be asked of it behind this. */
    static String whole(LampMoths x) {
        StringBuilder all = new StringBuilder(Due.seen(x));
        all.append("; seed ").append(x.seed(0));
        for (int left = x.undo(); left >= 0; left = x.undo()) {
            all.append("; undo ").append(left).append(':').append(standing(x));
        }
        for (int slot = 0; slot < 2; slot++) {
            all.append("; again ").append(x.again(slot)).append(':').append(standing(x));
        }
        all.append("; street ").append(x.street()).append(": ").append(Due.seen(x));
        return all.toString();
    }

    /** What each question answers of a street, for every window there may be; the seed is 0 behind it. */
    static String answers(LampMoths x) {
        StringBuilder all = new StringBuilder();
        for (int window = 0; window < 5; window++) {
            all.append(' ').append(x.dim(window, 0)).append(' ').append(x.dim(window, 9));
            all.append(' ').append(x.share(window, true)).append(' ').append(x.share(window, false));
            all.append(' ').append(x.rests(window, (window + 1) % 5, 0));
            all.append(' ').append(x.rests(window, (window + 1) % 5, 1));
        }
        all.append("; ").append(x.cheap(false)).append(' ').append(x.cheap(true));
        all.append("; ").append(x.moving(0)).append(' ').append(x.moving(1));
        all.append("; ").append(x.judge(4, 13243048));
        for (int t = 0; t < 40; t += 3) {
            all.append(' ').append(x.clouds(t, 3, true)).append('/').append(x.clouds(t, 3, false));
        }
        x.seed(1);
        return all.append("; ").append(x.weeks(30)).append(' ').append(x.seed(0)).toString();
    }

    /** What an act may change. */
    private static String standing(LampMoths x) {
        StringBuilder all = new StringBuilder();
        for (int what = 2; what <= 5; what++) {
            all.append(' ').append(x.about(what));
        }
        int windows = x.about(0);
        for (int window = 0; window < windows; window++) {
            all.append(' ').append(x.window(window, 1));
        }
        int moths = x.about(1);
        for (int moth = 0; moth < moths; moth++) {
            all.append(' ').append(x.moth(moth, 0));
        }
        return all.toString();
    }

    /** The call answers that, and the object is behind it as a twin that was not asked. */
    static void leaves(Due due, String call, Made made, Call asked, long want) {
        LampMoths x = made.anew();
        due.is(call, asked.on(x), want);
        due.same(call + " changes nothing", whole(x), whole(made.anew()));
    }

    /** The same, with an object that has some of everything, one with every row full, and a new one. */
    static void leavesAll(Due due, String call, Call asked, long want) {
        leaves(due, call + " of a busy one", Edges::busy, asked, want);
        leaves(due, call + " of a full one", Edges::brim, asked, want);
        leaves(due, call + " of a new one", Edges::fresh, asked, want);
    }
}
