import java.io.IOException;
import java.nio.file.Files;
import java.nio.file.Path;
import java.util.ArrayList;
import java.util.List;
import java.util.regex.Matcher;
import java.util.regex.Pattern;

/** Prints the Java of README.md as one program that compares each answer with the one that is told behind it. */
public final class ReadmeCalls {
    static final Path README = Path.of("README.md");
    private static final Pattern SHOWN = Pattern.compile("(\\S.*);\\s+// (-?\\d+|[A-Z]+)(: .*)?");
    private static final Pattern MADE = Pattern.compile("LampMoths x = new LampMoths\\(\\);");

    /** A call that the page shows, with what it tells behind it. */
    record Shown(int line, String call, String answer) {
        String check() {
            String due = Character.isLetter(answer.charAt(0)) ? "LampMoths." + answer : answer + "L";
            String told = call.replace("\\", "\\\\").replace("\"", "\\\"");
            return "due(" + line + ", \"" + told + "\", " + call + ", " + due + ");";
        }
    }

    final List<Shown> shown = new ArrayList<>();
    final List<String> notUnderstood = new ArrayList<>();
    private final StringBuilder members = new StringBuilder();
    private final StringBuilder body = new StringBuilder();

    ReadmeCalls() throws IOException {
        List<String> lines = Files.readAllLines(README);
        boolean inJava = false;
        boolean inMember = false;
        for (int at = 0; at < lines.size(); at++) {
            String line = lines.get(at);
            if (line.startsWith("```")) {
                inJava = !inJava && line.equals("```java");
                inMember = inJava && at + 1 < lines.size() && lines.get(at + 1).startsWith("static ");
            } else if (inMember) {
                members.append("  ").append(line).append('\n');
            } else if (inJava && !line.isBlank()) {
                take(at + 1, line);
            }
        }
    }

    private void take(int number, String line) {
        Matcher call = SHOWN.matcher(line);
        if (call.matches()) {
            Shown one = new Shown(number, call.group(1), call.group(2));
            shown.add(one);
            body.append("    ").append(one.check()).append('\n');
        } else if (MADE.matcher(line).matches()) {
            body.append("    ").append(line).append('\n');
        } else {
            // A line that is shown and not looked at could tell anything.
            notUnderstood.add(README + ":" + number + ": no call with its answer: " + line);
        }
    }

    private String program() {
        return String.join("\n",
                "public final class ReadmeRuns {",
                "  private static int wrong = 0;",
                "  private static void due(int line, String call, long got, long want) {",
                "    if (got != want) {",
                "      wrong++;",
                "      System.out.println(\"README.md:\" + line + \": \" + call + \" answered \" + got"
                        + " + \", told is \" + want);",
                "    }",
                "  }",
                members.toString(),
                "  public static void main(String[] args) {",
                body.toString(),
                "    System.out.println(\"ReadmeRuns: " + shown.size() + " calls made, \" + wrong + \" not as told\");",
                "    if (wrong != 0) System.exit(1);",
                "  }",
                "}",
                "");
    }

    public static void main(String[] args) throws IOException {
        ReadmeCalls calls = new ReadmeCalls();
        calls.notUnderstood.forEach(System.err::println);
        if (!calls.notUnderstood.isEmpty() || calls.shown.isEmpty()) {
            System.exit(1);
        }
        System.out.print(calls.program());
    }
}
