/** A street of lamps, the moths that come to them, and the tax that is owed for these. */
public final class LampMoths {
    public static final int UNKNOWN = -1, BAD = -2, LATE = -3, FULL = -4, NONE = -9;

    private static final int PLACES = 9;
    private static final int NOWHERE = 9;
    private static final int MOST_WINDOWS = 5;
    private static final int MOST_MOTHS = 6;
    private static final int MOST_BYTES = 56;
    private static final int MOST_ACTS = 14;
    private static final int MOST_COUNTED = 6;
    private static final int MOST_DOINGS = 4;
    private static final int MOST_WEEKS = 30;
    private static final int MOST_OWED = 99;
    private static final int SLOTS = 2;
    private static final int GROUPS = 1 << MOST_WINDOWS;

    private static final int FROM_ABOVE = 0;
    private static final int CALM = 1;
    private static final int FROM_BELOW = 2;

    private static final int GREEN = 1;
    private static final int CAT = 2;
    private static final int WIDOW = 3;
    private static final int WINDOW_KINDS = 4;

    private static final int BIG = 1;
    private static final int SILK = 2;
    private static final int SWEET = 3;
    private static final int MOTH_KINDS = 4;

    private static final int BRIGHTEST = 9;
    private static final int BRIGHT_TO_READ = 3;
    private static final int BRIGHT_FOR_NEIGHBOURS = 6;

    /** A kept row: what all windows burn, where moths sit, what was paid, then wind, honey, night. */
    private static final int SEATS_AT = MOST_WINDOWS;
    private static final int PAID_AT = SEATS_AT + MOST_MOTHS;
    private static final int WIND_AT = PAID_AT + MOST_WINDOWS;
    private static final int HONEY_AT = WIND_AT + 1;
    private static final int NIGHTS_AT = HONEY_AT + 1;
    private static final int ROW = NIGHTS_AT + 1;

    private static final long SEED_TIMES = 6364136223846793005L;
    private static final long SEED_MORE = 1442695040888963407L;

    private final int[] text = new int[MOST_BYTES];
    private int length = 0;
    private final Lane now = new Lane();
    /** Every question of the kind "what if" is asked of this one, so that none makes an object. */
    private final Lane trial = new Lane();
    private final Reader reader = new Reader();
    private final int[][] acts = new int[MOST_ACTS][ROW];
    private int actsHeld = 0;
    private final int[][] slots = new int[SLOTS][ROW];
    private final boolean[] slotUsed = new boolean[SLOTS];
    private final int[] countedWindows = new int[MOST_COUNTED];
    private final int[] countedWinds = new int[MOST_COUNTED];
    private final int[] countedSums = new int[MOST_COUNTED];
    private int countsHeld = 0;
    private final int[] groupOwes = new int[GROUPS];
    private long chance = 0L;

    public LampMoths() {
    }

    // ---- the street

    public int write(int letter) {
        if (letter < 0 || letter > 255) {
            return BAD;
        }
        if (length < 0 || length >= MOST_BYTES) {
            return FULL;
        }
        text[length] = letter;
        length++;
        return length;
    }

    public int wipe() {
        int was = length;
        length = 0;
        return was;
    }

    public int fault() {
        return readInto(trial);
    }

    public int street() {
        if (readInto(trial) != NONE) {
            return LATE;
        }
        now.copyFrom(trial);
        actsHeld = 0;
        for (int slot = 0; slot < SLOTS; slot++) {
            slotUsed[slot] = false;
        }
        return 10 * now.windows + now.moths;
    }

    public int about(int what) {
        switch (what) {
            case 0: return now.windows;
            case 1: return now.moths;
            case 2: return now.wind;
            case 3: return now.honey;
            case 4: return now.nights;
            case 5: return now.paidByAll();
            case 6: return now.owedByAll();
            case 7: return now.readers();
            case 8: return actsHeld;
            case 9: return countsHeld;
            case 10: return length;
            default: return BAD;
        }
    }

    public int window(int window, int what) {
        if (!now.hasWindow(window)) {
            return UNKNOWN;
        }
        switch (what) {
            case 0: return now.spots[window];
            case 1: return now.burns[window];
            case 2: return now.kinds[window];
            case 3: return now.owedBy(window);
            case 4: return now.paid[window];
            case 5: return now.mothsDrawnBy(window);
            case 6: return now.reads(window) ? 1 : 0;
            default: return BAD;
        }
    }

    public int moth(int moth, int what) {
        if (!now.hasMoth(moth)) {
            return UNKNOWN;
        }
        switch (what) {
            case 0: return now.seats[moth];
            case 1: return now.sorts[moth];
            case 2: return now.drawersOf(moth);
            case 3: return now.greatestTugOn(moth);
            default: return BAD;
        }
    }

    public int pull(int window, int moth) {
        if (!now.hasWindow(window) || !now.hasMoth(moth)) {
            return UNKNOWN;
        }
        return now.tug(window, moth);
    }

    // ---- acts

    public int up(int window) {
        return turned(window, 1);
    }

    public int down(int window) {
        return turned(window, -1);
    }

    public int blow(int wind) {
        if (!isWind(wind)) {
            return BAD;
        }
        if (now.wind == wind) {
            return LATE;
        }
        remember();
        int was = now.wind;
        now.wind = wind;
        return was;
    }

    public int move(int place) {
        if (!isHoneyPlace(place)) {
            return BAD;
        }
        if (now.honey == place) {
            return LATE;
        }
        remember();
        int was = now.honey;
        now.honey = place;
        return was;
    }

    public int night() {
        remember();
        return now.passNight();
    }

    public int undo() {
        if (actsHeld < 1 || actsHeld > MOST_ACTS) {
            return LATE;
        }
        actsHeld--;
        now.load(acts[actsHeld]);
        return actsHeld;
    }

    // ---- lamps

    public int dim(int window, int t) {
        if (!now.hasWindow(window)) {
            return UNKNOWN;
        }
        if (!isSum(t)) {
            return BAD;
        }
        int burns = now.burns[window];
        for (int turns = 0; turns <= BRIGHTEST; turns++) {
            if (owesAtMost(window, burns - turns, t)) {
                return turns;
            }
            if (owesAtMost(window, burns + turns, t)) {
                return 10 + turns;
            }
        }
        return NONE;
    }

    public int cheap(boolean row) {
        if (now.windows < 1) {
            return NONE;
        }
        trial.copyFrom(now);
        int least = NONE;
        int leastRow = NONE;
        int ways = power(3, now.windows);
        // The ways go up as their rows do, so of like ones the first is the least number.
        for (int way = 0; way < ways; way++) {
            trial.burnByThrees(way);
            if (trial.allRead()) {
                int owed = trial.owedByAll();
                if (leastRow == NONE || owed < least) {
                    least = owed;
                    leastRow = trial.burnsAsRow();
                }
            }
        }
        return row ? leastRow : least;
    }

    public int moving(int what) {
        if (what < 0 || what > 1) {
            return BAD;
        }
        trial.copyFrom(now);
        int least = NONE;
        int which = NONE;
        for (int window = 0; window < now.windows; window++) {
            for (int place = 0; place < PLACES; place++) {
                if (now.isFree(place)) {
                    trial.spots[window] = place;
                    int owed = trial.owedByAll();
                    if (which == NONE || owed < least) {
                        least = owed;
                        which = 10 * window + place;
                    }
                }
            }
            trial.spots[window] = now.spots[window];
        }
        return what == 0 ? which : least;
    }

    public int judge(int n, int row) {
        if (n < 1 || n > MOST_DOINGS) {
            return BAD;
        }
        int beyond = power(100, n);
        if (row < 0 || row >= beyond) {
            return BAD;
        }
        trial.copyFrom(now);
        int behind = beyond;
        for (int place = 0; place < n; place++) {
            behind = behind / 100;
            int doing = behind > 0 ? row / behind % 100 : 0;
            if (!didOnTrial(doing / 10, doing % 10)) {
                return place;
            }
        }
        return NONE;
    }

    public int share(int window, boolean upper) {
        if (!now.hasWindow(window)) {
            return UNKNOWN;
        }
        reckonGroups();
        int groups = 1 << now.windows;
        int own = 1 << window;
        int sum = 0;
        for (int group = 0; group < groups && group < GROUPS; group++) {
            if ((group & own) != 0) {
                int others = group - own;
                sum += ordersWith(Integer.bitCount(others)) * (groupOwes[group] - groupOwes[others]);
            }
        }
        return told(sum, factorial(now.windows), upper);
    }

    // ---- honey

    public int count(int window, int wind, int t) {
        if (!now.hasWindow(window)) {
            return UNKNOWN;
        }
        if (!isWind(wind) || !isSum(t)) {
            return BAD;
        }
        if (countsHeld < 0 || countsHeld >= MOST_COUNTED) {
            return FULL;
        }
        countedWindows[countsHeld] = window;
        countedWinds[countsHeld] = wind;
        countedSums[countsHeld] = t;
        countsHeld++;
        return countsHeld;
    }

    public int forget() {
        int was = countsHeld;
        countsHeld = 0;
        return was;
    }

    public int honeys() {
        trial.copyFrom(now);
        int bits = 0;
        for (int place = 0; place <= NOWHERE; place++) {
            trial.honey = place;
            if (trialFitsCounted()) {
                bits |= 1 << place;
            }
        }
        return bits;
    }

    // ---- rests, chances

    public int rests(int window, int other, int what) {
        if (!now.hasWindow(window) || !now.hasWindow(other)) {
            return UNKNOWN;
        }
        if (window == other || what < 0 || what > 1) {
            return BAD;
        }
        int many = 0;
        int first = NONE;
        for (int pair = 0; pair < 4; pair++) {
            int one = pair / 2;
            int two = pair % 2;
            boolean oneStays = gain(window, other, one, two) >= gain(window, other, 1 - one, two);
            boolean otherStays = gain(other, window, two, one) >= gain(other, window, 1 - two, one);
            if (oneStays && otherStays) {
                many++;
                if (first == NONE) {
                    first = 10 * one + two;
                }
            }
        }
        return what == 0 ? many : first;
    }

    public int clouds(int t, int x, boolean upper) {
        if (!isSum(t) || x < 0 || x > 10) {
            return BAD;
        }
        int groups = 1 << now.windows;
        int sum = 0;
        for (int clouded = 0; clouded < groups; clouded++) {
            trial.copyFrom(now);
            trial.cloud(clouded);
            if (trial.owedByAll() <= t) {
                int under = Integer.bitCount(clouded);
                sum += power(x, under) * power(10 - x, now.windows - under);
            }
        }
        return told(sum, power(10, now.windows), upper);
    }

    public long seed(long v) {
        long was = chance;
        chance = v;
        return was;
    }

    public int weeks(int m) {
        if (m < 1 || m > MOST_WEEKS) {
            return BAD;
        }
        trial.copyFrom(now);
        for (int week = 0; week < m; week++) {
            chance = chance * SEED_TIMES + SEED_MORE;
            passWeekOnTrial((int) ((chance >>> 33) % 20L));
        }
        return trial.paidByAll() - now.paidByAll();
    }

    // ---- slots

    public int keep(int slot) {
        if (slot < 0 || slot >= SLOTS) {
            return UNKNOWN;
        }
        now.save(slots[slot]);
        slotUsed[slot] = true;
        return now.nights;
    }

    public int again(int slot) {
        if (slot < 0 || slot >= SLOTS) {
            return UNKNOWN;
        }
        if (!slotUsed[slot]) {
            return LATE;
        }
        now.load(slots[slot]);
        actsHeld = 0;
        return now.nights;
    }

    // ---- what the calls above share

    private static boolean isWind(int wind) {
        return wind >= FROM_ABOVE && wind <= FROM_BELOW;
    }

    private static boolean isHoneyPlace(int place) {
        return place >= 0 && place <= NOWHERE;
    }

    private static boolean isSum(int t) {
        return t >= 0 && t <= MOST_OWED;
    }

    /** The FAULT of the text; without one the lane is the street that the text tells. */
    private int readInto(Lane lane) {
        reader.begin(lane);
        for (int at = 0; at < length && at < MOST_BYTES; at++) {
            if (!reader.takes(text[at], lane)) {
                return at;
            }
        }
        return reader.mayEnd() ? NONE : length;
    }

    private int turned(int window, int by) {
        if (!now.hasWindow(window)) {
            return UNKNOWN;
        }
        if (!now.canTurn(window, by)) {
            return LATE;
        }
        remember();
        now.turn(window, by);
        return now.burns[window];
    }

    /** Called ahead of every act: to undo it is to go back to the row that is saved here. */
    private void remember() {
        if (actsHeld >= MOST_ACTS) {
            forgetFirstAct();
        }
        if (actsHeld >= 0 && actsHeld < MOST_ACTS) {
            now.save(acts[actsHeld]);
            actsHeld++;
        }
    }

    private void forgetFirstAct() {
        // The forgotten row goes to the end, where it is written over: no new row is made.
        int[] first = acts[0];
        for (int at = 1; at < MOST_ACTS; at++) {
            acts[at - 1] = acts[at];
        }
        acts[MOST_ACTS - 1] = first;
        actsHeld = MOST_ACTS - 1;
    }

    private boolean owesAtMost(int window, int burns, int t) {
        if (burns < 0 || burns > BRIGHTEST || !now.hasWindow(window)) {
            return false;
        }
        trial.copyFrom(now);
        trial.burns[window] = burns;
        return trial.owedBy(window) <= t;
    }

    /** Does to the trial lane what two figures tell; false, if it can not be. */
    private boolean didOnTrial(int doing, int figure) {
        switch (doing) {
            // A night can always be, and whether another doing can be does not hang on it.
            case 0: return figure == 0;
            case 1: return trial.turn(figure, 1);
            case 2: return trial.turn(figure, -1);
            case 3: return blewOnTrial(figure);
            case 4: return movedOnTrial(figure);
            default: return false;
        }
    }

    private boolean blewOnTrial(int wind) {
        if (!isWind(wind) || trial.wind == wind) {
            return false;
        }
        trial.wind = wind;
        return true;
    }

    private boolean movedOnTrial(int place) {
        if (!isHoneyPlace(place) || trial.honey == place) {
            return false;
        }
        trial.honey = place;
        return true;
    }

    /** What all owe together for each group of windows, if the others do not burn. */
    private void reckonGroups() {
        int groups = 1 << now.windows;
        for (int group = 0; group < groups && group < GROUPS; group++) {
            trial.copyFrom(now);
            for (int window = 0; window < now.windows; window++) {
                if ((group >> window & 1) == 0) {
                    trial.burns[window] = 0;
                }
            }
            groupOwes[group] = trial.owedByAll();
        }
    }

    /** In how many orders a window comes right behind a certain group of so many others. */
    private int ordersWith(int others) {
        return factorial(others) * factorial(now.windows - 1 - others);
    }

    private boolean trialFitsCounted() {
        for (int at = 0; at < countsHeld && at < MOST_COUNTED; at++) {
            int window = countedWindows[at];
            if (trial.hasWindow(window)) {
                trial.wind = countedWinds[at];
                if (trial.owedBy(window) != countedSums[at]) {
                    return false;
                }
            }
        }
        return true;
    }

    /** What a window has of its own choice (1: it burns as now, 0: not at all) and the other's. */
    private int gain(int window, int other, int own, int others) {
        if (!now.hasWindow(window) || !now.hasWindow(other)) {
            return 0;
        }
        trial.copyFrom(now);
        if (own == 0) {
            trial.burns[window] = 0;
        }
        if (others == 0) {
            trial.burns[other] = 0;
        }
        if (own == 1) {
            return 5 - trial.owedBy(window);
        }
        return trial.reads(window) ? 3 : 0;
    }

    private void passWeekOnTrial(int lot) {
        if (lot < 5) {
            trial.turn(lot, 1);
        } else if (lot < 10) {
            trial.turn(lot - 5, -1);
        } else if (lot < 13) {
            trial.wind = lot - 10;
        } else {
            trial.passNight();
        }
    }

    private static int power(int base, int times) {
        int product = 1;
        for (int time = 0; time < times; time++) {
            product *= base;
        }
        return product;
    }

    private static int factorial(int n) {
        int product = 1;
        for (int factor = 2; factor <= n; factor++) {
            product *= factor;
        }
        return product;
    }

    private static int told(int above, int below, boolean upper) {
        int common = commonDivisor(Math.abs(above), Math.abs(below));
        if (common < 1) {
            return upper ? above : below;
        }
        return upper ? above / common : below / common;
    }

    private static int commonDivisor(int one, int other) {
        int greater = one;
        int rest = other;
        // Euclid's way takes no more than some 45 steps for any two ints.
        for (int step = 0; step < 64 && rest != 0; step++) {
            int next = greater % rest;
            greater = rest;
            rest = next;
        }
        return greater;
    }

    /** Takes the bytes of a text one by one, for as long as a street can begin with them. */
    private static final class Reader {
        private static final int START = 0;
        private static final int WIND = 1;
        private static final int HONEY = 2;
        private static final int PART = 3;
        private static final int WINDOW_PLACE = 4;
        private static final int WINDOW_BURNS = 5;
        private static final int WINDOW_KIND = 6;
        private static final int MOTH_PLACE = 7;
        private static final int MOTH_KIND = 8;

        private int due = START;
        private int place = 0;
        private int burns = 0;

        void begin(Lane lane) {
            lane.clear();
            due = START;
        }

        boolean mayEnd() {
            return due == PART;
        }

        boolean takes(int letter, Lane lane) {
            if (due == START) {
                return goesOn(letter == 'L', WIND);
            }
            if (due == PART) {
                return takesPart(letter, lane);
            }
            int figure = letter - '0';
            if (figure < 0 || figure > 9) {
                return false;
            }
            return takesFigure(figure, lane);
        }

        private boolean goesOn(boolean fits, int next) {
            if (fits) {
                due = next;
            }
            return fits;
        }

        private boolean takesPart(int letter, Lane lane) {
            if (letter == 'W') {
                return goesOn(lane.windows < MOST_WINDOWS, WINDOW_PLACE);
            }
            return goesOn(letter == 'M' && lane.moths < MOST_MOTHS, MOTH_PLACE);
        }

        private boolean takesFigure(int figure, Lane lane) {
            switch (due) {
                case WIND:
                    lane.wind = figure;
                    return goesOn(isWind(figure), HONEY);
                case HONEY:
                    lane.honey = figure;
                    return goesOn(true, PART);
                case WINDOW_PLACE:
                    place = figure;
                    return goesOn(figure < PLACES && lane.isFree(figure), WINDOW_BURNS);
                case WINDOW_BURNS:
                    burns = figure;
                    return goesOn(true, WINDOW_KIND);
                case WINDOW_KIND:
                    return goesOn(figure < WINDOW_KINDS && lane.addWindow(place, burns, figure), PART);
                case MOTH_PLACE:
                    place = figure;
                    return goesOn(figure < PLACES, MOTH_KIND);
                case MOTH_KIND:
                    return goesOn(figure < MOTH_KINDS && lane.addMoth(place, figure), PART);
                default:
                    return false;
            }
        }
    }

    /** A street as it is at one time, and what follows from that alone. */
    private static final class Lane {
        final int[] spots = new int[MOST_WINDOWS];
        final int[] burns = new int[MOST_WINDOWS];
        final int[] kinds = new int[MOST_WINDOWS];
        final int[] paid = new int[MOST_WINDOWS];
        final int[] seats = new int[MOST_MOTHS];
        final int[] sorts = new int[MOST_MOTHS];
        int windows = 0;
        int moths = 0;
        int wind = CALM;
        int honey = NOWHERE;
        int nights = 0;
        /** What each window owes, as reckoned last; never read without reckoning anew. */
        private final int[] dues = new int[MOST_WINDOWS];

        void clear() {
            windows = 0;
            moths = 0;
            wind = CALM;
            honey = NOWHERE;
            nights = 0;
        }

        boolean addWindow(int place, int burning, int kind) {
            if (windows < 0 || windows >= MOST_WINDOWS) {
                return false;
            }
            spots[windows] = place;
            burns[windows] = burning;
            kinds[windows] = kind;
            paid[windows] = 0;
            windows++;
            return true;
        }

        boolean addMoth(int place, int sort) {
            if (moths < 0 || moths >= MOST_MOTHS) {
                return false;
            }
            seats[moths] = place;
            sorts[moths] = sort;
            moths++;
            return true;
        }

        void copyFrom(Lane other) {
            windows = other.windows;
            moths = other.moths;
            wind = other.wind;
            honey = other.honey;
            nights = other.nights;
            for (int window = 0; window < MOST_WINDOWS; window++) {
                spots[window] = other.spots[window];
                burns[window] = other.burns[window];
                kinds[window] = other.kinds[window];
                paid[window] = other.paid[window];
            }
            for (int moth = 0; moth < MOST_MOTHS; moth++) {
                seats[moth] = other.seats[moth];
                sorts[moth] = other.sorts[moth];
            }
        }

        void save(int[] row) {
            if (row == null || row.length < ROW) {
                return;
            }
            for (int window = 0; window < MOST_WINDOWS; window++) {
                row[window] = burns[window];
                row[PAID_AT + window] = paid[window];
            }
            for (int moth = 0; moth < MOST_MOTHS; moth++) {
                row[SEATS_AT + moth] = seats[moth];
            }
            row[WIND_AT] = wind;
            row[HONEY_AT] = honey;
            row[NIGHTS_AT] = nights;
        }

        void load(int[] row) {
            if (row == null || row.length < ROW) {
                return;
            }
            for (int window = 0; window < MOST_WINDOWS; window++) {
                burns[window] = row[window];
                paid[window] = row[PAID_AT + window];
            }
            for (int moth = 0; moth < MOST_MOTHS; moth++) {
                seats[moth] = row[SEATS_AT + moth];
            }
            wind = row[WIND_AT];
            honey = row[HONEY_AT];
            nights = row[NIGHTS_AT];
        }

        boolean hasWindow(int window) {
            return window >= 0 && window < windows && window < MOST_WINDOWS;
        }

        boolean hasMoth(int moth) {
            return moth >= 0 && moth < moths && moth < MOST_MOTHS;
        }

        boolean isFree(int place) {
            for (int window = 0; window < windows; window++) {
                if (spots[window] == place) {
                    return false;
                }
            }
            return true;
        }

        int tug(int window, int moth) {
            if (!hasWindow(window) || !hasMoth(moth) || burns[window] < 1) {
                return 0;
            }
            int off = Math.abs(spots[window] - seats[moth]);
            return Math.max(0, glow(window) + windHelp(seats[moth], spots[window]) + sweetness(window, moth) - off);
        }

        private int glow(int window) {
            if (kinds[window] == GREEN) {
                return burns[window] / 2;
            }
            return kinds[window] == WIDOW ? burns[window] + 2 : burns[window];
        }

        /** The wind carries the moth, from where it sits to where the window is. */
        private int windHelp(int from, int to) {
            boolean carried = wind == FROM_ABOVE && to < from || wind == FROM_BELOW && to > from;
            return carried ? 1 : 0;
        }

        private int sweetness(int window, int moth) {
            return sorts[moth] == SWEET && spots[window] == honey ? 3 : 0;
        }

        int greatestTugOn(int moth) {
            int greatest = 0;
            for (int window = 0; window < windows; window++) {
                greatest = Math.max(greatest, tug(window, moth));
            }
            return greatest;
        }

        int drawersOf(int moth) {
            int greatest = 0;
            int bits = 0;
            for (int window = 0; window < windows; window++) {
                int tug = tug(window, moth);
                if (tug > greatest) {
                    greatest = tug;
                    bits = 0;
                }
                if (tug > 0 && tug == greatest) {
                    bits |= 1 << window;
                }
            }
            return bits;
        }

        int mothsDrawnBy(int window) {
            int bits = 0;
            for (int moth = 0; moth < moths; moth++) {
                if ((drawersOf(moth) >> window & 1) == 1) {
                    bits |= 1 << moth;
                }
            }
            return bits;
        }

        private int taxOf(int moth) {
            if (sorts[moth] == SILK) {
                return 0;
            }
            return sorts[moth] == BIG ? 18 : 6;
        }

        private void reckon() {
            for (int window = 0; window < windows; window++) {
                dues[window] = 0;
            }
            for (int moth = 0; moth < moths; moth++) {
                charge(drawersOf(moth), taxOf(moth));
            }
            for (int window = 0; window < windows; window++) {
                if (kinds[window] == CAT) {
                    dues[window] /= 2;
                }
            }
        }

        private void charge(int drawers, int tax) {
            int many = Integer.bitCount(drawers);
            if (many < 1) {
                return;
            }
            for (int window = 0; window < windows; window++) {
                if ((drawers >> window & 1) == 1) {
                    dues[window] += tax / many;
                }
            }
        }

        int owedBy(int window) {
            if (!hasWindow(window)) {
                return 0;
            }
            reckon();
            return dues[window];
        }

        int owedByAll() {
            reckon();
            int sum = 0;
            for (int window = 0; window < windows; window++) {
                sum += dues[window];
            }
            return sum;
        }

        int paidByAll() {
            int sum = 0;
            for (int window = 0; window < windows; window++) {
                sum += paid[window];
            }
            return sum;
        }

        boolean reads(int window) {
            if (!hasWindow(window)) {
                return false;
            }
            if (burns[window] >= BRIGHT_TO_READ) {
                return true;
            }
            for (int other = 0; other < windows; other++) {
                if (burns[other] >= BRIGHT_FOR_NEIGHBOURS && Math.abs(spots[other] - spots[window]) <= 1) {
                    return true;
                }
            }
            return false;
        }

        int readers() {
            int bits = 0;
            for (int window = 0; window < windows; window++) {
                if (reads(window)) {
                    bits |= 1 << window;
                }
            }
            return bits;
        }

        boolean allRead() {
            return readers() == (1 << windows) - 1;
        }

        boolean canTurn(int window, int by) {
            return hasWindow(window) && burns[window] + by >= 0 && burns[window] + by <= BRIGHTEST;
        }

        boolean turn(int window, int by) {
            if (!canTurn(window, by)) {
                return false;
            }
            burns[window] += by;
            return true;
        }

        /** What all pay in it. */
        int passNight() {
            reckon();
            int sum = 0;
            for (int window = 0; window < windows; window++) {
                paid[window] += dues[window];
                sum += dues[window];
            }
            for (int moth = 0; moth < moths; moth++) {
                flyNearer(moth, drawersOf(moth));
            }
            nights++;
            return sum;
        }

        private void flyNearer(int moth, int drawers) {
            int window = Integer.numberOfTrailingZeros(drawers);
            if (!hasWindow(window) || !hasMoth(moth)) {
                return;
            }
            seats[moth] += Integer.compare(spots[window], seats[moth]);
        }

        void cloud(int clouded) {
            for (int window = 0; window < windows; window++) {
                if ((clouded >> window & 1) == 1) {
                    burns[window] = Math.max(0, burns[window] - 2);
                }
            }
        }

        /** Window 0 has the highest figure of the way, as it has of the row that is told. */
        void burnByThrees(int way) {
            int left = way;
            for (int window = windows - 1; window >= 0; window--) {
                burns[window] = left % 3 * 3;
                left /= 3;
            }
        }

        int burnsAsRow() {
            int row = 1;
            for (int window = 0; window < windows; window++) {
                row = row * 10 + burns[window];
            }
            return row;
        }
    }
}
