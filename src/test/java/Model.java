import java.math.BigInteger;
import java.util.ArrayDeque;
import java.util.ArrayList;
import java.util.Arrays;
import java.util.Deque;
import java.util.HashSet;
import java.util.List;
import java.util.Set;
import java.util.TreeMap;
import java.util.function.UnaryOperator;
import java.util.regex.Matcher;
import java.util.regex.Pattern;

/**
 * The document told a second time, in another way than the program: by states that never change, whole lists of
 * what may be, all orders, BigInteger. ModelTest compares the two over many calls.
 */
final class Model {
    record Window(int place, int burns, int kind, int paid) {
        Window burning(int b) {
            return new Window(place, b, kind, paid);
        }

        Window at(int p) {
            return new Window(p, burns, kind, paid);
        }
    }

    record Moth(int place, int kind) {
    }

    record State(int wind, int honey, int night, List<Window> windows, List<Moth> moths) {
        State with(int window, Window w) {
            List<Window> all = new ArrayList<>(windows);
            all.set(window, w);
            return new State(wind, honey, night, List.copyOf(all), moths);
        }

        State burning(int window, int burns) {
            return with(window, windows.get(window).burning(burns));
        }

        State blown(int w) {
            return new State(w, honey, night, windows, moths);
        }

        State moved(int h) {
            return new State(wind, h, night, windows, moths);
        }
    }

    private static final int UNKNOWN = -1, BAD = -2, LATE = -3, FULL = -4, NONE = -9;
    private static final Pattern STREET = Pattern.compile("L[012][0-9](W[0-8][0-9][0-3]|M[0-8][0-3])*");
    private static final Pattern PARTS = Pattern.compile("W([0-8])([0-9])([0-3])|M([0-8])([0-3])");
    private static final List<String> ENDS = ends();

    private final StringBuilder text = new StringBuilder();
    private State now = new State(1, 9, 0, List.of(), List.of());
    private final Deque<State> acts = new ArrayDeque<>();
    private final List<int[]> counted = new ArrayList<>();
    private final State[] slots = new State[2];
    private long seed = 0;

    // ---- the street

    int write(int letter) {
        if (letter < 0 || letter > 255) {
            return BAD;
        }
        if (text.length() == 56) {
            return FULL;
        }
        return text.append((char) letter).length();
    }

    int wipe() {
        int was = text.length();
        text.setLength(0);
        return was;
    }

    /** Every text of up to 3 bytes by which a street's beginning may be ended. */
    private static List<String> ends() {
        List<String> all = new ArrayList<>(List.of("", "L19", "19", "9"));
        for (char c = '0'; c <= '8'; c++) {
            all.add(String.valueOf(c));
            all.add(c + "0");
            all.add(c + "00");
        }
        return all;
    }

    private static boolean isStreet(String s) {
        if (!STREET.matcher(s).matches()) {
            return false;
        }
        Set<String> places = new HashSet<>();
        int windows = 0;
        int moths = 0;
        Matcher part = PARTS.matcher(s.substring(3));
        while (part.find()) {
            if (part.group(1) != null) {
                windows++;
                places.add(part.group(1));
            } else {
                moths++;
            }
        }
        return windows <= 5 && moths <= 6 && places.size() == windows;
    }

    private static boolean mayBegin(String s) {
        return ENDS.stream().anyMatch(end -> isStreet(s + end));
    }

    int fault() {
        String s = text.toString();
        for (int at = 0; at < s.length(); at++) {
            if (!mayBegin(s.substring(0, at + 1))) {
                return at;
            }
        }
        return isStreet(s) ? NONE : s.length();
    }

    int street() {
        String s = text.toString();
        if (!isStreet(s)) {
            return LATE;
        }
        List<Window> windows = new ArrayList<>();
        List<Moth> moths = new ArrayList<>();
        Matcher part = PARTS.matcher(s.substring(3));
        while (part.find()) {
            if (part.group(1) != null) {
                windows.add(new Window(Integer.parseInt(part.group(1)), Integer.parseInt(part.group(2)),
                        Integer.parseInt(part.group(3)), 0));
            } else {
                moths.add(new Moth(Integer.parseInt(part.group(4)), Integer.parseInt(part.group(5))));
            }
        }
        now = new State(s.charAt(1) - '0', s.charAt(2) - '0', 0, List.copyOf(windows), List.copyOf(moths));
        acts.clear();
        Arrays.fill(slots, null);
        return 10 * windows.size() + moths.size();
    }

    private static int pull(State s, int window, int moth) {
        Window w = s.windows.get(window);
        Moth m = s.moths.get(moth);
        if (w.burns == 0) {
            return 0;
        }
        int pull = switch (w.kind) {
            case 1 -> Math.floorDiv(w.burns, 2);
            case 3 -> w.burns + 2;
            default -> w.burns;
        };
        if (s.wind == 0 && w.place < m.place) {
            pull++;
        }
        if (s.wind == 2 && w.place > m.place) {
            pull++;
        }
        pull -= Math.max(w.place, m.place) - Math.min(w.place, m.place);
        if (m.kind == 3 && s.honey == w.place) {
            pull += 3;
        }
        return pull < 0 ? 0 : pull;
    }

    private static List<Integer> drawers(State s, int moth) {
        TreeMap<Integer, List<Integer>> byPull = new TreeMap<>();
        for (int w = 0; w < s.windows.size(); w++) {
            byPull.computeIfAbsent(pull(s, w, moth), p -> new ArrayList<>()).add(w);
        }
        return byPull.isEmpty() || byPull.lastKey() == 0 ? List.of() : byPull.lastEntry().getValue();
    }

    private static int owes(State s, int window) {
        int sum = 0;
        for (int m = 0; m < s.moths.size(); m++) {
            List<Integer> by = drawers(s, m);
            if (by.contains(window)) {
                sum += new int[] {6, 18, 0, 6}[s.moths.get(m).kind] / by.size();
            }
        }
        return s.windows.get(window).kind == 2 ? sum / 2 : sum;
    }

    private static int allOwe(State s) {
        int sum = 0;
        for (int w = 0; w < s.windows.size(); w++) {
            sum += owes(s, w);
        }
        return sum;
    }

    private static int allPaid(State s) {
        return s.windows.stream().mapToInt(Window::paid).sum();
    }

    private static boolean reads(State s, int window) {
        Window own = s.windows.get(window);
        return own.burns >= 3
                || s.windows.stream().anyMatch(w -> w.burns >= 6 && Math.abs(w.place - own.place) <= 1);
    }

    private static int bits(List<Integer> of) {
        return of.stream().mapToInt(b -> 1 << b).sum();
    }

    int about(int what) {
        List<Integer> readers = new ArrayList<>();
        for (int w = 0; w < now.windows.size(); w++) {
            if (reads(now, w)) {
                readers.add(w);
            }
        }
        int[] all = {now.windows.size(), now.moths.size(), now.wind, now.honey, now.night, allPaid(now), allOwe(now),
            bits(readers), acts.size(), counted.size(), text.length()};
        return what < 0 || what >= all.length ? BAD : all[what];
    }

    private boolean noWindow(int w) {
        return w < 0 || w >= now.windows.size();
    }

    private boolean noMoth(int m) {
        return m < 0 || m >= now.moths.size();
    }

    int window(int window, int what) {
        if (noWindow(window)) {
            return UNKNOWN;
        }
        List<Integer> drawn = new ArrayList<>();
        for (int m = 0; m < now.moths.size(); m++) {
            if (drawers(now, m).contains(window)) {
                drawn.add(m);
            }
        }
        Window w = now.windows.get(window);
        int[] all = {w.place, w.burns, w.kind, owes(now, window), w.paid, bits(drawn), reads(now, window) ? 1 : 0};
        return what < 0 || what >= all.length ? BAD : all[what];
    }

    int moth(int moth, int what) {
        if (noMoth(moth)) {
            return UNKNOWN;
        }
        int greatest = 0;
        for (int w = 0; w < now.windows.size(); w++) {
            greatest = Math.max(greatest, pull(now, w, moth));
        }
        Moth m = now.moths.get(moth);
        int[] all = {m.place, m.kind, bits(drawers(now, moth)), greatest};
        return what < 0 || what >= all.length ? BAD : all[what];
    }

    int pull(int window, int moth) {
        return noWindow(window) || noMoth(moth) ? UNKNOWN : pull(now, window, moth);
    }

    // ---- acts

    private void act(State next) {
        acts.addLast(now);
        if (acts.size() > 14) {
            acts.removeFirst();
        }
        now = next;
    }

    /** The state behind a doing of two figures; null, if it can not be. */
    private static State done(State s, int doing, int figure) {
        if (doing == 0) {
            return figure == 0 ? afterNight(s) : null;
        }
        if (doing == 1 || doing == 2) {
            if (figure >= s.windows.size()) {
                return null;
            }
            int burns = s.windows.get(figure).burns + (doing == 1 ? 1 : -1);
            return burns < 0 || burns > 9 ? null : s.burning(figure, burns);
        }
        if (doing == 3) {
            return figure > 2 || figure == s.wind ? null : s.blown(figure);
        }
        return doing != 4 || figure == s.honey ? null : s.moved(figure);
    }

    private static State afterNight(State s) {
        List<Window> windows = new ArrayList<>();
        for (int w = 0; w < s.windows.size(); w++) {
            Window old = s.windows.get(w);
            windows.add(new Window(old.place, old.burns, old.kind, old.paid + owes(s, w)));
        }
        List<Moth> moths = new ArrayList<>();
        for (int m = 0; m < s.moths.size(); m++) {
            Moth old = s.moths.get(m);
            int place = old.place;
            List<Integer> by = drawers(s, m);
            if (!by.isEmpty()) {
                int to = s.windows.get(by.get(0)).place;
                place = to < place ? place - 1 : to > place ? place + 1 : place;
            }
            moths.add(new Moth(place, old.kind));
        }
        return new State(s.wind, s.honey, s.night + 1, List.copyOf(windows), List.copyOf(moths));
    }

    private int turn(int window, int doing) {
        if (noWindow(window)) {
            return UNKNOWN;
        }
        State next = done(now, doing, window);
        if (next == null) {
            return LATE;
        }
        act(next);
        return now.windows.get(window).burns;
    }

    int up(int window) {
        return turn(window, 1);
    }

    int down(int window) {
        return turn(window, 2);
    }

    int blow(int wind) {
        if (wind < 0 || wind > 2) {
            return BAD;
        }
        int was = now.wind;
        if (was == wind) {
            return LATE;
        }
        act(now.blown(wind));
        return was;
    }

    int move(int place) {
        if (place < 0 || place > 9) {
            return BAD;
        }
        int was = now.honey;
        if (was == place) {
            return LATE;
        }
        act(now.moved(place));
        return was;
    }

    int night() {
        int before = allPaid(now);
        act(afterNight(now));
        return allPaid(now) - before;
    }

    int undo() {
        if (acts.isEmpty()) {
            return LATE;
        }
        now = acts.removeLast();
        return acts.size();
    }

    // ---- lamps

    int dim(int window, int t) {
        if (noWindow(window)) {
            return UNKNOWN;
        }
        if (t < 0 || t > 99) {
            return BAD;
        }
        int best = NONE;
        int fewest = 99;
        for (int burns = 9; burns >= 0; burns--) {
            int by = burns - now.windows.get(window).burns;
            boolean better = Math.abs(by) < fewest || Math.abs(by) == fewest && by < 0;
            if (better && owes(now.burning(window, burns), window) <= t) {
                fewest = Math.abs(by);
                best = by > 0 ? 10 + by : -by;
            }
        }
        return best;
    }

    int cheap(boolean row) {
        if (now.windows.isEmpty()) {
            return NONE;
        }
        long best = Long.MAX_VALUE;
        int n = now.windows.size();
        for (int number = 0; number < Math.pow(10, n); number++) {
            String figures = String.format("%0" + n + "d", number);
            if (figures.matches("[036]*")) {
                State s = now;
                for (int w = 0; w < n; w++) {
                    s = s.burning(w, figures.charAt(w) - '0');
                }
                boolean all = true;
                for (int w = 0; w < n; w++) {
                    all &= reads(s, w);
                }
                if (all) {
                    best = Math.min(best, allOwe(s) * 10_000_000L + Integer.parseInt("1" + figures));
                }
            }
        }
        return (int) (row ? best % 10_000_000L : best / 10_000_000L);
    }

    int moving(int what) {
        if (what != 0 && what != 1) {
            return BAD;
        }
        int best = Integer.MAX_VALUE;
        for (int w = 0; w < now.windows.size(); w++) {
            for (int p = 0; p <= 8; p++) {
                int place = p;
                if (now.windows.stream().noneMatch(x -> x.place == place)) {
                    best = Math.min(best, allOwe(now.with(w, now.windows.get(w).at(p))) * 100 + 10 * w + p);
                }
            }
        }
        if (best == Integer.MAX_VALUE) {
            return NONE;
        }
        return what == 0 ? best % 100 : best / 100;
    }

    int judge(int n, int row) {
        if (n < 1 || n > 4 || row < 0 || String.valueOf(row).length() > 2 * n) {
            return BAD;
        }
        String figures = "0".repeat(2 * n - String.valueOf(row).length()) + row;
        State s = now;
        for (int place = 0; place < n; place++) {
            s = done(s, figures.charAt(2 * place) - '0', figures.charAt(2 * place + 1) - '0');
            if (s == null) {
                return place;
            }
        }
        return NONE;
    }

    private static int told(BigInteger above, BigInteger below, boolean upper) {
        BigInteger by = above.gcd(below);
        return (upper ? above : below).divide(by).intValueExact();
    }

    int share(int window, boolean upper) {
        if (noWindow(window)) {
            return UNKNOWN;
        }
        int n = now.windows.size();
        State dark = now;
        for (int w = 0; w < n; w++) {
            dark = dark.burning(w, 0);
        }
        int[] sums = new int[2];
        come(dark, new ArrayList<>(), window, sums);
        return told(BigInteger.valueOf(sums[0]), BigInteger.valueOf(sums[1]), upper);
    }

    /** Goes through all orders: sums has what a window adds in all of them, and how many there are. */
    private void come(State s, List<Integer> there, int window, int[] sums) {
        if (there.size() == now.windows.size()) {
            sums[1]++;
            return;
        }
        for (int w = 0; w < now.windows.size(); w++) {
            if (!there.contains(w)) {
                State next = s.burning(w, now.windows.get(w).burns);
                List<Integer> more = new ArrayList<>(there);
                more.add(w);
                int orders = sums[1];
                come(next, more, window, sums);
                if (w == window) {
                    sums[0] += (allOwe(next) - allOwe(s)) * (sums[1] - orders);
                }
            }
        }
    }

    // ---- honey

    int count(int window, int wind, int t) {
        if (noWindow(window)) {
            return UNKNOWN;
        }
        if (wind < 0 || wind > 2 || t < 0 || t > 99) {
            return BAD;
        }
        if (counted.size() == 6) {
            return FULL;
        }
        counted.add(new int[] {window, wind, t});
        return counted.size();
    }

    int forget() {
        int was = counted.size();
        counted.clear();
        return was;
    }

    int honeys() {
        int all = 0;
        for (int p = 0; p <= 9; p++) {
            State there = now.moved(p);
            if (counted.stream().filter(c -> !noWindow(c[0])).allMatch(c -> owes(there.blown(c[1]), c[0]) == c[2])) {
                all += 1 << p;
            }
        }
        return all;
    }

    // ---- rests, chances

    int rests(int window, int other, int what) {
        if (noWindow(window) || noWindow(other)) {
            return UNKNOWN;
        }
        if (window == other || what != 0 && what != 1) {
            return BAD;
        }
        int[][][] has = new int[2][2][2];
        for (int a = 0; a < 2; a++) {
            for (int b = 0; b < 2; b++) {
                State s = a == 1 ? now : now.burning(window, 0);
                s = b == 1 ? s : s.burning(other, 0);
                has[a][b][0] = a == 1 ? 5 - owes(s, window) : reads(s, window) ? 3 : 0;
                has[a][b][1] = b == 1 ? 5 - owes(s, other) : reads(s, other) ? 3 : 0;
            }
        }
        List<Integer> all = new ArrayList<>();
        for (int a = 0; a < 2; a++) {
            for (int b = 0; b < 2; b++) {
                if (has[1 - a][b][0] <= has[a][b][0] && has[a][1 - b][1] <= has[a][b][1]) {
                    all.add(10 * a + b);
                }
            }
        }
        return what == 0 ? all.size() : all.isEmpty() ? NONE : all.get(0);
    }

    int clouds(int t, int x, boolean upper) {
        if (t < 0 || t > 99 || x < 0 || x > 10) {
            return BAD;
        }
        BigInteger good = chanceInTenths(now, 0, t, x);
        return told(good, BigInteger.TEN.pow(now.windows.size()), upper);
    }

    private static BigInteger chanceInTenths(State s, int window, int t, int x) {
        if (window == s.windows.size()) {
            return allOwe(s) <= t ? BigInteger.ONE : BigInteger.ZERO;
        }
        State under = s.burning(window, Math.max(0, s.windows.get(window).burns - 2));
        return chanceInTenths(under, window + 1, t, x).multiply(BigInteger.valueOf(x))
                .add(chanceInTenths(s, window + 1, t, x).multiply(BigInteger.valueOf(10 - x)));
    }

    long seed(long v) {
        long was = seed;
        seed = v;
        return was;
    }

    int weeks(int m) {
        if (m < 1 || m > 30) {
            return BAD;
        }
        State s = now;
        for (int week = 0; week < m; week++) {
            BigInteger x = BigInteger.valueOf(seed).multiply(new BigInteger("6364136223846793005"))
                    .add(new BigInteger("1442695040888963407")).mod(BigInteger.ONE.shiftLeft(64));
            seed = x.longValue();
            int lot = x.shiftRight(33).mod(BigInteger.valueOf(20)).intValue();
            UnaryOperator<State> doing = lot < 5 ? a -> done(a, 1, lot)
                    : lot < 10 ? a -> done(a, 2, lot - 5)
                    : lot < 13 ? a -> a.blown(lot - 10)
                    : Model::afterNight;
            State next = doing.apply(s);
            s = next == null ? s : next;
        }
        return allPaid(s) - allPaid(now);
    }

    // ---- slots

    int keep(int slot) {
        if (slot != 0 && slot != 1) {
            return UNKNOWN;
        }
        slots[slot] = now;
        return now.night;
    }

    int again(int slot) {
        if (slot != 0 && slot != 1) {
            return UNKNOWN;
        }
        if (slots[slot] == null) {
            return LATE;
        }
        now = slots[slot];
        acts.clear();
        return now.night;
    }
}
