import java.io.IOException;
import java.lang.reflect.Field;
import java.lang.reflect.Method;
import java.lang.reflect.Modifier;
import java.nio.file.Files;
import java.nio.file.Path;
import java.util.Set;
import java.util.TreeSet;
import java.util.regex.Matcher;
import java.util.regex.Pattern;
import java.util.stream.Collectors;
import java.util.stream.Stream;

/** README.md shows every call with an answer, and tells the constants and the tests that there are. */
public final class ReadmeTest {
    private static final Due DUE = new Due("ReadmeTest");
    private static final Path TESTS = Path.of("src/test/java");

    public static void main(String[] args) throws IOException, IllegalAccessException {
        everyLineIsLookedAt();
        everyCallIsShown();
        refusalsAreShown();
        constantsAreTold();
        testsAreTold();
        DUE.end();
    }

    private static void everyLineIsLookedAt() throws IOException {
        DUE.same("lines of Java without an answer", new ReadmeCalls().notUnderstood.toString(), "[]");
    }

    private static void everyCallIsShown() throws IOException {
        Set<String> shown = new TreeSet<>();
        for (ReadmeCalls.Shown one : new ReadmeCalls().shown) {
            Matcher call = Pattern.compile("x\\.(\\w+)\\(").matcher(one.call());
            if (call.lookingAt()) {
                shown.add(call.group(1));
            }
        }
        for (Method method : LampMoths.class.getDeclaredMethods()) {
            if (Modifier.isPublic(method.getModifiers())) {
                DUE.holds(method.getName() + " is shown with an answer", shown.contains(method.getName()));
            }
        }
    }

    private static void refusalsAreShown() throws IOException {
        Set<String> answers = new ReadmeCalls().shown.stream().map(ReadmeCalls.Shown::answer)
                .collect(Collectors.toSet());
        for (String name : new String[] {"UNKNOWN", "BAD", "LATE", "FULL", "NONE"}) {
            DUE.holds(name + " is shown as an answer", answers.contains(name));
        }
    }

    private static void constantsAreTold() throws IOException, IllegalAccessException {
        String page = Files.readString(ReadmeCalls.README);
        for (Field field : LampMoths.class.getDeclaredFields()) {
            if (Modifier.isPublic(field.getModifiers())) {
                Matcher row = Pattern.compile("\\| `" + field.getName() + "` \\| (-?\\d+) \\|").matcher(page);
                String told = row.find() ? row.group(1) : "not told";
                DUE.same(field.getName(), told, String.valueOf(field.getInt(null)));
            }
        }
    }

    private static void testsAreTold() throws IOException {
        Set<String> told = new TreeSet<>();
        Matcher row = Pattern.compile("(?m)^\\| `(\\w+Test)` \\|").matcher(Files.readString(ReadmeCalls.README));
        while (row.find()) {
            told.add(row.group(1));
        }
        try (Stream<Path> files = Files.list(TESTS)) {
            Set<String> there = files.map(file -> file.getFileName().toString())
                    .filter(name -> name.endsWith("Test.java"))
                    .map(name -> name.substring(0, name.length() - ".java".length()))
                    .collect(Collectors.toCollection(TreeSet::new));
            DUE.same("tests", told.toString(), there.toString());
        }
    }
}
