import java.io.IOException;
import java.lang.reflect.Constructor;
import java.lang.reflect.Field;
import java.lang.reflect.Method;
import java.lang.reflect.Modifier;
import java.nio.file.Files;
import java.nio.file.Path;
import java.util.ArrayList;
import java.util.List;
import java.util.Set;
import java.util.TreeSet;
import java.util.regex.Matcher;
import java.util.regex.Pattern;

/** The face is the document's, and the rules of LANGUAGE.md that a look at the source can tell are kept. */
public final class LanguageTest {
    private static final Due DUE = new Due("LanguageTest");
    private static final Path SOURCE = Path.of("src/main/java/LampMoths.java");
    private static final String[] FACE = {
        "int write(int)", "int wipe()", "int fault()", "int street()", "int about(int)", "int window(int,int)",
        "int moth(int,int)", "int pull(int,int)", "int up(int)", "int down(int)", "int blow(int)", "int move(int)",
        "int night()", "int undo()", "int dim(int,int)", "int cheap(boolean)", "int moving(int)",
        "int judge(int,int)", "int share(int,boolean)", "int count(int,int,int)", "int forget()", "int honeys()",
        "int rests(int,int,int)", "int clouds(int,int,boolean)", "long seed(long)", "int weeks(int)",
        "int keep(int)", "int again(int)"};
    private static final String[] FORBIDDEN = {
        "\\bthrow\\b", "\\btry\\b", "\\bcatch\\b", "\\bsynchronized\\b", "\\bassert\\b", "\\bimport\\b",
        "\\bpackage\\b", "->", "::", "\\bObject\\b", "\\bSystem\\.(?!arraycopy)", "Exact\\(", "\\bprotected\\b",
        "\\bstatic \\{", "\\bThread\\b", "\\bwhile \\(true\\)", "\\bfor \\(;;\\)"};

    public static void main(String[] args) throws IOException {
        constants();
        face();
        words();
        names();
        lengths();
        DUE.end();
    }

    private static void constants() {
        DUE.is("UNKNOWN", LampMoths.UNKNOWN, -1);
        DUE.is("BAD", LampMoths.BAD, -2);
        DUE.is("LATE", LampMoths.LATE, -3);
        DUE.is("FULL", LampMoths.FULL, -4);
        DUE.is("NONE", LampMoths.NONE, -9);
    }

    private static void face() {
        Set<String> found = new TreeSet<>();
        for (Method method : LampMoths.class.getDeclaredMethods()) {
            if (!Modifier.isPrivate(method.getModifiers())) {
                DUE.holds(method + " is public, of an object", method.getModifiers() == Modifier.PUBLIC);
                List<String> types = new ArrayList<>();
                for (Class<?> type : method.getParameterTypes()) {
                    types.add(type.getName());
                }
                found.add(method.getReturnType() + " " + method.getName() + "(" + String.join(",", types) + ")");
            }
        }
        DUE.holds("the methods are the document's: " + found, found.equals(new TreeSet<>(List.of(FACE))));
        Set<String> fields = new TreeSet<>();
        for (Field field : LampMoths.class.getDeclaredFields()) {
            if (!Modifier.isPrivate(field.getModifiers())) {
                fields.add(field.getName());
            }
            DUE.holds(field + ": static ones are final",
                    !Modifier.isStatic(field.getModifiers()) || Modifier.isFinal(field.getModifiers()));
        }
        DUE.holds("the constants: " + fields,
                fields.equals(new TreeSet<>(List.of("UNKNOWN", "BAD", "LATE", "FULL", "NONE"))));
        Constructor<?>[] made = LampMoths.class.getDeclaredConstructors();
        DUE.is("constructors", made.length, 1);
        DUE.is("its parameters", made[0].getParameterCount(), 0);
        DUE.holds("it is public", Modifier.isPublic(made[0].getModifiers()));
        DUE.is("the class is public, final", LampMoths.class.getModifiers(), Modifier.PUBLIC | Modifier.FINAL);
    }

    private static String code() throws IOException {
        return Files.readString(SOURCE).replaceAll("(?s)/\\*.*?\\*/", "").replaceAll("//[^\n]*", "");
    }

    private static void words() throws IOException {
        String code = code();
        for (String word : FORBIDDEN) {
            DUE.holds("the source has no " + word, !Pattern.compile(word).matcher(code).find());
        }
    }

    /** No other method, in whatever class, bears the name of one of the face. */
    private static void names() {
        Set<String> face = new TreeSet<>();
        for (String method : FACE) {
            face.add(method.substring(method.indexOf(' ') + 1, method.indexOf('(')));
        }
        for (Class<?> inside : LampMoths.class.getDeclaredClasses()) {
            DUE.holds(inside + " is static", Modifier.isStatic(inside.getModifiers()));
            for (Method method : inside.getDeclaredMethods()) {
                DUE.holds(method + " has a name of its own", !face.contains(method.getName()));
            }
        }
        for (Method method : LampMoths.class.getDeclaredMethods()) {
            boolean own = Modifier.isPrivate(method.getModifiers());
            DUE.holds(method + " has a name of its own", !own || !face.contains(method.getName()));
            DUE.holds(method + " has few parameters", method.getParameterCount() <= 7);
        }
    }

    private static void lengths() throws IOException {
        Matcher method = Pattern.compile("\n( +)(?!private static final class)[a-z][^\n;=]*\\) \\{\n(.*?)\n\\1\\}",
                Pattern.DOTALL).matcher(code());
        int many = 0;
        while (method.find()) {
            many++;
            DUE.holds("short: " + method.group().strip().split("\n")[0], method.group(2).split("\n").length <= 60);
        }
        DUE.holds("methods are found: " + many, many > FACE.length);
    }
}
