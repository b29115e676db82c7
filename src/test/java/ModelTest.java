import java.util.Random;

/** Promises 1 to 29 over long runs of calls made by a fixed seed: each answer is compared with the Model's. */
public final class ModelTest {
    private static final int RUNS = 1500;
    private static final int CALLS = 512;
    private static final Due DUE = new Due("ModelTest");

    private final Random random;
    private final LampMoths x = new LampMoths();
    private final Model y = new Model();
    private final StringBuilder told = new StringBuilder();
    private int calls = 0;

    private ModelTest(long seed) {
        random = new Random(seed);
    }

    public static void main(String[] args) {
        for (int run = 0; run < RUNS; run++) {
            new ModelTest(run).run();
        }
        DUE.end();
    }

    private void run() {
        while (calls < CALLS) {
            if (calls == 0 || random.nextInt(60) == 0) {
                newStreet();
            } else {
                call(random.nextInt(100));
            }
        }
    }

    private void same(String call, long got, long want) {
        calls++;
        if (calls <= CALLS) {
            DUE.is(call + " behind " + told, got, want);
        }
    }

    private int figure(int below) {
        return '0' + random.nextInt(below);
    }

    private void newStreet() {
        StringBuilder text = new StringBuilder("L");
        text.append((char) figure(3)).append((char) figure(10));
        int windows = random.nextInt(15) == 0 ? 6 : random.nextInt(6);
        int moths = random.nextInt(15) == 0 ? 7 : random.nextInt(7);
        int place = random.nextInt(9);
        while (windows + moths > 0) {
            if (random.nextInt(windows + moths) < windows) {
                windows--;
                // Steps of 2 over 9 places meet none again before the tenth window; 3 makes faults.
                place = (place + (random.nextInt(30) == 0 ? 3 : 2)) % 9;
                text.append('W').append(place).append((char) figure(10)).append((char) figure(4));
            } else {
                moths--;
                text.append('M').append((char) figure(9)).append((char) figure(4));
            }
        }
        spoil(text);
        told.setLength(0);
        told.append(text);
        same("wipe", x.wipe(), y.wipe());
        for (int at = 0; at < text.length(); at++) {
            same("write", x.write(text.charAt(at)), y.write(text.charAt(at)));
        }
        same("fault", x.fault(), y.fault());
        same("street", x.street(), y.street());
        for (int at = text.length(); at > 3 && y.fault() != LampMoths.NONE; at--) {
            text.setLength(Math.max(3, y.fault() - random.nextInt(3)));
            rewrite(text);
        }
    }

    private void rewrite(StringBuilder text) {
        same("wipe", x.wipe(), y.wipe());
        for (int at = 0; at < text.length(); at++) {
            same("write", x.write(text.charAt(at)), y.write(text.charAt(at)));
        }
        same("fault", x.fault(), y.fault());
        same("street", x.street(), y.street());
        told.append(" then ").append(text);
    }

    private void spoil(StringBuilder text) {
        if (random.nextInt(8) == 0) {
            text.setCharAt(random.nextInt(text.length()), (char) random.nextInt(random.nextBoolean() ? 256 : 96));
        }
    }

    private int window() {
        return random.nextInt(20) == 0 ? random.nextInt(9) - 2 : random.nextInt(5);
    }

    private int small(int below) {
        return random.nextInt(20) == 0 ? random.nextInt() : random.nextInt(below + 2) - 1;
    }

    private void call(int kind) {
        told.append(' ').append(kind);
        if (kind < 30) {
            look(kind);
        } else if (kind < 60) {
            act(kind);
        } else if (kind < 80) {
            ask(kind);
        } else {
            wager(kind);
        }
    }

    private void look(int kind) {
        int window = window();
        int moth = small(6);
        int what = small(kind < 10 ? 11 : kind < 20 ? 7 : 4);
        if (kind < 10) {
            same("about " + what, x.about(what), y.about(what));
        } else if (kind < 20) {
            same("window " + window + " " + what, x.window(window, what), y.window(window, what));
        } else if (kind < 26) {
            same("moth " + moth + " " + what, x.moth(moth, what), y.moth(moth, what));
        } else {
            same("pull " + window + " " + moth, x.pull(window, moth), y.pull(window, moth));
        }
    }

    private void act(int kind) {
        int window = window();
        int wind = small(3);
        int place = small(10);
        if (kind < 35) {
            same("up " + window, x.up(window), y.up(window));
        } else if (kind < 40) {
            same("down " + window, x.down(window), y.down(window));
        } else if (kind < 45) {
            same("blow " + wind, x.blow(wind), y.blow(wind));
        } else if (kind < 50) {
            same("move " + place, x.move(place), y.move(place));
        } else if (kind < 54) {
            same("night", x.night(), y.night());
        } else if (kind < 58) {
            same("undo", x.undo(), y.undo());
        } else if (kind == 58) {
            int slot = small(2);
            same("keep " + slot, x.keep(slot), y.keep(slot));
        } else {
            int slot = small(2);
            same("again " + slot, x.again(slot), y.again(slot));
        }
    }

    private void ask(int kind) {
        int window = window();
        int t = random.nextBoolean() ? small(100) : small(20);
        boolean upper = random.nextBoolean();
        if (kind < 64) {
            same("dim " + window + " " + t, x.dim(window, t), y.dim(window, t));
        } else if (kind == 64 && random.nextInt(10) == 0) {
            same("cheap " + upper, x.cheap(upper), y.cheap(upper));
        } else if (kind < 68) {
            int what = small(2);
            same("moving " + what, x.moving(what), y.moving(what));
        } else if (kind < 76) {
            int n = small(5);
            int row = random.nextInt(20) == 0 ? small(1 << 30) : doings(Math.max(1, Math.min(4, n)));
            same("judge " + n + " " + row, x.judge(n, row), y.judge(n, row));
        } else {
            same("share " + window + " " + upper, x.share(window, upper), y.share(window, upper));
        }
    }

    private int doings(int n) {
        int row = 0;
        for (int doing = 0; doing < n; doing++) {
            int kind = random.nextInt(random.nextInt(9) == 0 ? 10 : 5);
            int figure = kind == 0 && random.nextInt(5) != 0 ? 0 : random.nextInt(random.nextBoolean() ? 3 : 10);
            row = row * 100 + kind * 10 + figure;
        }
        return row;
    }

    private void wager(int kind) {
        int window = window();
        int other = window();
        boolean upper = random.nextBoolean();
        int t = small(100);
        if (kind < 83) {
            int wind = small(3);
            int sum = random.nextBoolean() ? y.window(window, 3) : 6 * random.nextInt(4);
            same("count " + window + " " + wind + " " + sum, x.count(window, wind, sum), y.count(window, wind, sum));
        } else if (kind == 83) {
            same("forget", x.forget(), y.forget());
        } else if (kind < 88) {
            same("honeys", x.honeys(), y.honeys());
        } else if (kind < 92) {
            int what = small(2);
            same("rests " + window + " " + other, x.rests(window, other, what), y.rests(window, other, what));
        } else if (kind < 96) {
            int tenths = small(11);
            same("clouds " + t + " " + tenths, x.clouds(t, tenths, upper), y.clouds(t, tenths, upper));
        } else if (kind == 96) {
            long v = random.nextLong();
            same("seed", x.seed(v), y.seed(v));
        } else {
            int m = small(31);
            same("weeks " + m, x.weeks(m), y.weeks(m));
        }
    }
}
