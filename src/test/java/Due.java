/** Compares answers with those that are due, and ends a test with the exit code that .ci/run looks at. */
final class Due {
    private final String test;
    private int checked = 0;
    private int wrong = 0;

    Due(String test) {
        this.test = test;
    }

    void is(String call, long got, long want) {
        checked++;
        if (got != want) {
            wrong++;
            if (wrong <= 40) {
                System.out.println(test + ": " + call + " answered " + got + ", due is " + want);
            }
        }
    }

    void holds(String what, boolean so) {
        is(what, so ? 1 : 0, 1);
    }

    void end() {
        System.out.println(test + ": " + checked + " answers looked at, " + wrong + " not as due");
        if (wrong != 0 || checked == 0) {
            System.exit(1);
        }
    }

    static void tell(LampMoths x, String text) {
        x.wipe();
        for (int at = 0; at < text.length(); at++) {
            x.write(text.charAt(at));
        }
    }

    static LampMoths streetOf(String text) {
        LampMoths x = new LampMoths();
        tell(x, text);
        if (x.street() < 0) {
            throw new IllegalStateException("no street: " + text);
        }
        return x;
    }

    /** All that can be seen of an object without changing it, but for the seed and the slots. */
    static String seen(LampMoths x) {
        return x.about(8) + " acts: " + seenButActs(x);
    }

    static String seenButActs(LampMoths x) {
        StringBuilder all = new StringBuilder();
        for (int what = 0; what <= 10; what++) {
            if (what != 8) {
                all.append(x.about(what)).append(' ');
            }
        }
        for (int window = 0; window < x.about(0); window++) {
            for (int what = 0; what <= 6; what++) {
                all.append(x.window(window, what)).append(' ');
            }
        }
        for (int moth = 0; moth < x.about(1); moth++) {
            for (int what = 0; what <= 3; what++) {
                all.append(x.moth(moth, what)).append(' ');
            }
        }
        return all.append(x.fault()).append(' ').append(x.honeys()).toString();
    }
}
