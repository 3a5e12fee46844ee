import java.io.IOException;
import java.lang.reflect.Method;
import java.lang.reflect.Modifier;
import java.nio.file.Files;
import java.nio.file.Path;
import java.util.ArrayList;
import java.util.Arrays;
import java.util.Comparator;
import java.util.List;
import java.util.Random;
import java.util.Set;
import java.util.TreeSet;
import java.util.regex.Matcher;
import java.util.regex.Pattern;
import java.util.stream.Collectors;
import java.util.stream.Stream;

/** What README.md says of the use of the class and of the running of its tests is so. */
final class ReadmeTest {
    private static final Path TESTS = Path.of("src/test/java");
    private static final Pattern BLOCK = Pattern.compile("(?ms)^```(\\w+)\n(.*?)^```$");
    private static final Pattern ANSWER = Pattern.compile("(day\\.\\w+\\(.*\\)); +// (-?\\d+|[A-Z]+)(: .*)?");
    private static final Pattern FILE = Pattern.compile("`([\\w./*]+(?:/|\\.java|\\.md|/\\w+))`");
    private static final Pattern NAME = Pattern.compile("`(\\w+)`");

    private static final String COURT = "i1342 m024 p163 c056 w125 x194 n037";
    private static final int RUNS = 300, CALLS = 450;
    private static final int[] NUMBERS = {-1000, -6, -2, -1, 0, 1, 2, 3, 4, 5, 6, 8, 10, 17, 30, 40, 41, 1000};
    private static final Set<Long> REFUSALS = Set.of((long) ThirdDay.BAD, (long) ThirdDay.FULL, (long) ThirdDay.STATE,
            (long) ThirdDay.FINDING, (long) ThirdDay.NONE);

    private final Check check = new Check("ReadmeTest");
    private final String readme = Files.readString(Path.of("README.md"));

    private ReadmeTest() throws IOException { }

    public static void main(String[] args) throws Exception {
        ReadmeTest test = new ReadmeTest();
        test.commands();
        test.answersBelowNought();
        test.callsNamed();
        test.constantsNamed();
        test.filesNamed();
        test.check.end();
    }

    private List<String> blocks(String language) {
        List<String> found = new ArrayList<>();
        Matcher block = BLOCK.matcher(readme);
        while (block.find()) {
            if (block.group(1).equals(language)) {
                found.add(block.group(2));
            }
        }
        return found;
    }

    // ---- its commands, and its example, which the first of them compile and run

    private void commands() throws IOException, InterruptedException {
        List<String> example = blocks("java").stream().flatMap(String::lines).toList();
        List<String> commands = blocks("sh");
        check.due("blocks of commands", commands.size(), 2);
        try (Scratch scratch = new Scratch()) {
            scratch.write("main/Yours.java", program(example));
            Files.createSymbolicLink(scratch.at("main/src"), Path.of("src").toAbsolutePath());
            Files.createSymbolicLink(scratch.at("shared"), Path.of("../shared").toAbsolutePath());
            for (String block : commands) {
                Scratch.Ended ended = scratch.run("main", "bash", "-e", "-c", block);
                check.holds(block + "ends with " + ended.code() + ": " + ended.printed(), ended.code() == 0);
                if (block.contains("Yours") && ended.code() == 0) {
                    answers(example, ended.printed().lines().toList());
                }
            }
        }
    }

    /** The example as it stands, and once more with each call printed. */
    private static String program(List<String> example) {
        String asItStands = String.join("\n", example);
        String printed = example.stream().map(line -> ANSWER.matcher(line).replaceFirst("System.out.println($1);"))
                .collect(Collectors.joining("\n"));
        return "public final class Yours { public static void main(String[] args) {\n{\n" + asItStands + "\n}\n{\n"
                + printed + "\n}\n} }\n";
    }

    private void answers(List<String> example, List<String> printed) {
        int answered = 0;
        for (String line : example) {
            Matcher answer = ANSWER.matcher(line);
            boolean says = answer.matches();
            check.holds("README.md does not say what this answers: " + line, says || !line.startsWith("day."));
            if (says && answered < printed.size()) {
                check.due("README.md's " + answer.group(1), Long.parseLong(printed.get(answered)),
                        number(answer.group(2)));
                answered++;
            }
        }
        check.holds("README.md has an example", answered > 0);
        check.due("what the example printed", printed.size(), answered);
    }

    private long number(String word) {
        if (!word.matches("[A-Z]+")) {
            return Long.parseLong(word);
        }
        try {
            return ThirdDay.class.getField(word).getInt(null);
        } catch (ReflectiveOperationException e) {
            check.holds("README.md has an answer that is none: " + word, false);
            return 0;
        }
    }

    // ---- what it says of answers below 0

    private void answersBelowNought() throws ReflectiveOperationException {
        Random random = new Random(9);
        List<Method> calls = Arrays.stream(ThirdDay.class.getDeclaredMethods())
                .filter(method -> Modifier.isPublic(method.getModifiers()))
                .sorted(Comparator.comparing(Method::getName)).toList();
        Set<String> below = new TreeSet<>();
        for (int run = 0; run < RUNS; run++) {
            ThirdDay day = withCourt();
            day.row(0, 1);
            day.lay(0, 0, NUMBERS[0]);
            for (int call = 0; call < CALLS; call++) {
                Method method = calls.get(random.nextInt(calls.size()));
                Object[] numbers = new Object[method.getParameterCount()];
                Arrays.setAll(numbers, k -> NUMBERS[random.nextInt(NUMBERS.length)]);
                long answer = ((Number) method.invoke(day, numbers)).longValue();
                if (answer < 0 && !REFUSALS.contains(answer)) {
                    below.add(method.getName());
                }
            }
        }
        check.holds("below 0 without refusing are answers of " + below, below.equals(Set.of("asked", "digest")));
    }

    private static ThirdDay withCourt() {
        ThirdDay day = new ThirdDay();
        day.text(0, COURT.length());
        for (int i = 0; i < COURT.length(); i++) {
            day.put(0, i, COURT.charAt(i));
        }
        day.court(0);
        return day;
    }

    // ---- what it names

    private void callsNamed() {
        List<String> named = new ArrayList<>();
        readme.lines().filter(line -> line.startsWith("| `")).forEach(line -> {
            Matcher name = NAME.matcher(line.substring(0, line.indexOf('|', 1)));
            while (name.find()) {
                named.add(name.group(1));
            }
        });
        List<String> calls = Arrays.stream(ThirdDay.class.getDeclaredMethods())
                .filter(method -> Modifier.isPublic(method.getModifiers())).map(Method::getName).sorted().toList();
        check.holds("README.md's table names each call once: " + named, named.stream().sorted().toList().equals(calls));
    }

    private void constantsNamed() {
        Matcher name = NAME.matcher(readme);
        Set<String> named = new TreeSet<>();
        while (name.find()) {
            if (name.group(1).matches("[A-Z]+")) {
                named.add(name.group(1));
            }
        }
        named.removeAll(Set.of("FAIL"));
        check.holds("README.md names what refuses, and NONE: " + named,
                named.equals(Set.of("BAD", "FULL", "STATE", "FINDING", "NONE")));
    }

    private void filesNamed() throws IOException {
        Set<String> named = new TreeSet<>();
        Matcher file = FILE.matcher(readme);
        while (file.find()) {
            String name = file.group(1);
            named.add(name);
            check.holds("README.md names " + name + ", which is not there",
                    Files.exists(Path.of(name)) || Files.exists(TESTS.resolve(name)));
        }
        check.holds(".ci/run can be run", named.contains(".ci/run") && Files.isExecutable(Path.of(".ci/run")));
        try (Stream<Path> tests = Files.list(TESTS)) {
            tests.map(path -> path.getFileName().toString())
                    .forEach(name -> check.holds("README.md does not name " + name, named.contains(name)));
        }
    }
}
