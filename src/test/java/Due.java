import java.io.IOException;
import java.io.UncheckedIOException;
import java.nio.file.Files;
import java.nio.file.Path;

/** Compares answers with those that are due, and ends a test with the exit code that .ci/run looks at. */
final class Due {
    private static final Path DOCUMENT = Path.of("../shared/DOC.md");
    private static final int MOST_TOLD = 40;

    private final String test;
    private String document = null;
    private String sentence = "";
    private int checkedOfSentence = 1;
    private int checked = 0;
    private int wrong = 0;

    Due(String test) {
        this.test = test;
    }

    /** What follows looks at these words of the document; a sentence that nothing looks at is a fault of the test. */
    void sentence(String words) {
        endSentence();
        sentence = " [" + words + "]";
        checkedOfSentence = 0;
        // Only the words are looked up: without the document at hand the answers are looked at all the same.
        if (Files.isReadable(DOCUMENT) && !document().contains(words)) {
            tellWrong("the document has no such words" + sentence);
        }
    }

    private void endSentence() {
        if (checkedOfSentence == 0) {
            tellWrong("nothing looks at" + sentence);
        }
    }

    private String document() {
        if (document == null) {
            try {
                document = Files.readString(DOCUMENT).replaceAll("\\s+", " ");
            } catch (IOException e) {
                throw new UncheckedIOException(e);
            }
        }
        return document;
    }

    void is(String call, long got, long want) {
        checked++;
        checkedOfSentence++;
        if (got != want) {
            tellWrong(call + " answered " + got + ", due is " + want + sentence);
        }
    }

    void same(String what, String got, String want) {
        checked++;
        checkedOfSentence++;
        if (!got.equals(want)) {
            tellWrong(what + ": is " + got + ", due is " + want + sentence);
        }
    }

    private void tellWrong(String what) {
        wrong++;
        if (wrong <= MOST_TOLD) {
            System.out.println(test + ": " + what);
        }
    }

    void holds(String what, boolean so) {
        is(what, so ? 1 : 0, 1);
    }

    void end() {
        endSentence();
        System.out.println(test + ": " + checked + " answers looked at, " + wrong + " not as due");
        if (wrong != 0 || checked == 0) {
            System.exit(1);
        }
    }

    static void tell(LampMoths x, String text) {
        x.wipe();
        for (int at = 0; at < text.length(); at++) {
            x.write(text.charAt(at));
        }
    }

    static LampMoths streetOf(String text) {
        LampMoths x = new LampMoths();
        tell(x, text);
        if (x.street() < 0) {
            throw new IllegalStateException("no street: " + text);
        }
        return x;
    }

    /** All that can be seen of an object without changing it, but for the seed and the slots. */
    static String seen(LampMoths x) {
        return x.about(8) + " acts: " + seenButActs(x);
    }

    static String seenButActs(LampMoths x) {
        StringBuilder all = new StringBuilder();
        for (int what = 0; what <= 10; what++) {
            if (what != 8) {
                all.append(x.about(what)).append(' ');
            }
        }
        int windows = x.about(0);
        for (int window = 0; window < windows; window++) {
            for (int what = 0; what <= 6; what++) {
                all.append(x.window(window, what)).append(' ');
            }
        }
        int moths = x.about(1);
        for (int moth = 0; moth < moths; moth++) {
            for (int what = 0; what <= 3; what++) {
                all.append(x.moth(moth, what)).append(' ');
            }
        }
        return all.append(x.fault()).append(' ').append(x.honeys()).toString();
    }
}
