import java.io.IOException;
import java.lang.reflect.Constructor;
import java.lang.reflect.Field;
import java.lang.reflect.Method;
import java.lang.reflect.Modifier;
import java.nio.file.Files;
import java.nio.file.Path;
import java.util.Arrays;
import java.util.List;
import java.util.Set;
import java.util.TreeSet;
import java.util.regex.Matcher;
import java.util.regex.Pattern;
import java.util.stream.Collectors;

/** What can be looked up of the rules of ../shared/LANGUAGE.md, and the face of the class. */
final class RulesTest {
    private static final List<String> FACE = List.of(
            "int row(int,int)", "int lay(int,int,int)", "int at(int,int)", "int tear(int)",
            "int copy(int,int,int,int,int)", "int mean(int)", "int text(int,int)", "int put(int,int,int)",
            "int fault(int)", "int court(int)", "int man(int,int)", "int mark(int,int)", "int heat(int)",
            "int salve(int)", "int trial(int)", "int undo(int)", "int keep(int)", "int on(int)", "int comes()",
            "int wrong(int)", "int best()", "int heats(int,int)", "int tells(int)", "int order(int)",
            "int tried(int)", "int least()", "int fits(int)", "int ask(int)", "int hands(int,int)",
            "int kinds(int,int)", "int duel(int)", "int odds(int)", "int mid(int)", "int lots(int,int)",
            "int asked()", "long upper()", "long lower()", "int count(int)", "int finding()", "int findings(int)",
            "long digest()");
    private static final Set<String> CONSTANTS = Set.of("BAD", "FULL", "FINDING", "STATE", "SPENT", "NONE");
    private static final List<String> FORBIDDEN = List.of(
            "\\bthrow\\b", "\\btry\\b", "\\bcatch\\b", "\\bsynchronized\\b", "\\bassert\\b", "\\bimport\\b",
            "\\bpackage\\b", "->", "::", "Exact\\b", "\\bObject\\b", "\\bThread\\b", "\\bRandom\\b", "\\bFiles?\\b",
            "nanoTime", "currentTimeMillis", "\\bprintln\\b", "\\bfloat\\b", "\\bdouble\\b", "\\benum\\b.*\\{.*\\{",
            "\\bnew\\s+\\w+\\s*\\([^)]*\\)\\s*\\{", "@", "Integer\\.M", "static\\s*\\{");
    private static final int MOST_LINES = 60, MOST_FIELDS = 20, MOST_CLASSES = 12, MOST_PARAMETERS = 7;

    private final Check check = new Check("RulesTest");

    public static void main(String[] args) throws IOException {
        RulesTest test = new RulesTest();
        test.face();
        test.classes();
        test.source(Files.readString(Path.of("src/main/java/ThirdDay.java")));
        test.check.end();
    }

    private static String sign(Method m) {
        return m.getReturnType() + " " + m.getName() + "("
                + Arrays.stream(m.getParameterTypes()).map(Class::getName).collect(Collectors.joining(",")) + ")";
    }

    private void face() {
        Set<String> open = new TreeSet<>();
        for (Method m : ThirdDay.class.getDeclaredMethods()) {
            if (!Modifier.isPrivate(m.getModifiers()) && !m.isSynthetic()) {
                open.add(sign(m));
                check.holds(m.getName() + " is public, not static",
                        Modifier.isPublic(m.getModifiers()) && !Modifier.isStatic(m.getModifiers()));
            }
        }
        check.holds("the public methods are those of the document", open.equals(new TreeSet<>(FACE)));
        Constructor<?>[] constructors = ThirdDay.class.getDeclaredConstructors();
        check.holds("one public constructor without arguments", constructors.length == 1
                && constructors[0].getParameterCount() == 0 && Modifier.isPublic(constructors[0].getModifiers()));
        check.holds("the class is public and final", ThirdDay.class.getModifiers() == (Modifier.PUBLIC | Modifier.FINAL));
        Set<String> constants = new TreeSet<>();
        for (Field f : ThirdDay.class.getDeclaredFields()) {
            if (!Modifier.isPrivate(f.getModifiers())) {
                constants.add(f.getName());
            }
        }
        check.holds("the constants are those of the document", constants.equals(CONSTANTS));
        check.due("BAD", ThirdDay.BAD, -1);
        check.due("FULL", ThirdDay.FULL, -2);
        check.due("FINDING", ThirdDay.FINDING, -3);
        check.due("STATE", ThirdDay.STATE, -4);
        check.due("SPENT", ThirdDay.SPENT, -6);
        check.due("NONE", ThirdDay.NONE, -9);
    }

    private void classes() {
        Set<String> names = FACE.stream().map(s -> s.replaceAll(".* (\\w+)\\(.*", "$1")).collect(Collectors.toSet());
        Class<?>[] inside = ThirdDay.class.getDeclaredClasses();
        check.holds("at most twelve classes", inside.length < MOST_CLASSES);
        looks(ThirdDay.class, names);
        for (Class<?> c : inside) {
            check.holds(c + " is static", Modifier.isStatic(c.getModifiers()));
            looks(c, names);
        }
    }

    private void looks(Class<?> c, Set<String> names) {
        int fields = 0;
        for (Field f : c.getDeclaredFields()) {
            if (Modifier.isStatic(f.getModifiers())) {
                check.holds(f + " is final", Modifier.isFinal(f.getModifiers()));
            } else {
                fields++;
            }
        }
        check.holds(c + " has some twenty fields", fields <= MOST_FIELDS);
        for (Method m : c.getDeclaredMethods()) {
            check.holds(m + " takes at most seven", m.getParameterCount() <= MOST_PARAMETERS);
            boolean ofFace = c == ThirdDay.class && Modifier.isPublic(m.getModifiers());
            check.holds(m + " bears no public name", ofFace || !names.contains(m.getName()));
        }
    }

    private void source(String source) {
        String bare = source.replaceAll("(?s)/\\*.*?\\*/", "").replaceAll("//[^\n]*", "");
        for (String pattern : FORBIDDEN) {
            check.holds("no " + pattern, !Pattern.compile(pattern).matcher(bare).find());
        }
        check.holds("plain signs alone", source.chars().allMatch(c -> c == '\n' || c >= 32 && c < 127));
        Matcher library = Pattern.compile("\\b(Math|System|Integer|Long|Arrays)\\.(\\w+)").matcher(bare);
        while (library.find()) {
            check.holds(library.group() + " is of the library that is left", Set.of("Math.max", "Math.min",
                    "System.arraycopy", "Integer.bitCount").contains(library.group()));
        }
        Matcher method = Pattern.compile("(?m)^( {4}| {8})(?! )[\\w\\[\\] ]+\\w\\([^;{]*\\) \\{$").matcher(source);
        int methods = 0;
        while (method.find()) {
            int end = source.indexOf("\n" + method.group(1) + "}", method.end());
            long lines = source.substring(method.start(), end).lines().count() + 1;
            check.holds(method.group().trim() + " is short", lines <= MOST_LINES);
            methods++;
        }
        check.holds("methods are found", methods > FACE.size());
    }
}
