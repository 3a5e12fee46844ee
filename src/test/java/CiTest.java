import java.io.IOException;
import java.nio.file.Files;
import java.nio.file.Path;
import java.nio.file.StandardCopyOption;

/** .ci/run over small projects of its own: it ends with 0 if all is well, and not if one thing is amiss. */
final class CiTest {
    private static final String PASSES = "System.out.println(ThirdDay.BAD);", FAILS = "System.exit(1);";
    private static final String THROWS = "Integer.parseInt(\"none\");", NO_JAVA = "no java";
    private static final String[] OWN = {"AnOwnTest", "BothTest"};
    private static final String[] GIVEN = {"AllRuns", "BestRuns"};

    private final Check check = new Check("CiTest");

    public static void main(String[] args) throws IOException, InterruptedException {
        CiTest test = new CiTest();
        test.allPass();
        for (String amiss : new String[] {FAILS, THROWS, NO_JAVA}) {
            test.fails("a project's test is: " + amiss, new String[] {amiss, PASSES}, new String[] {PASSES});
            test.fails("a test given is: " + amiss, new String[] {PASSES}, new String[] {amiss, PASSES});
        }
        test.fails("the project has no test", new String[0], new String[] {PASSES});
        test.fails("no test is given", new String[] {PASSES}, new String[0]);
        test.check.end();
    }

    private void allPass() throws IOException, InterruptedException {
        Scratch.Ended ended = run(new String[] {PASSES, PASSES}, new String[] {PASSES, PASSES});
        check.due(".ci/run, if all pass,", ended.code(), 0);
        for (String[] names : new String[][] {OWN, GIVEN}) {
            for (String name : names) {
                check.holds(".ci/run names " + name + " in: " + ended.printed(),
                        ended.printed().lines().anyMatch(line -> line.matches("ok +" + name)));
            }
        }
    }

    private void fails(String what, String[] own, String[] given) throws IOException, InterruptedException {
        Scratch.Ended ended = run(own, given);
        check.holds(".ci/run, if " + what + ", does not end with 0", ended.code() != 0);
        check.holds(".ci/run, if " + what + ", says so: " + ended.printed(),
                ended.printed().lines().anyMatch(line -> line.matches("FAIL +\\w+|no tests under .*")
                        || line.matches("\\d+ passed, [1-9]\\d* failed")));
    }

    /** From a folder that is not the project's, as .ci/run is to find its own way. */
    private static Scratch.Ended run(String[] own, String[] given) throws IOException, InterruptedException {
        try (Scratch scratch = new Scratch()) {
            Path script = scratch.at("main/.ci/run");
            Files.createDirectories(script.getParent());
            Files.copy(Path.of(".ci/run"), script, StandardCopyOption.COPY_ATTRIBUTES);
            scratch.write("main/src/main/java/ThirdDay.java",
                    "public final class ThirdDay { public static final int BAD = -1; }");
            Files.createDirectories(scratch.at("main/src/test/java"));
            Files.createDirectories(scratch.at("shared/tests"));
            write(scratch, "main/src/test/java", OWN, own);
            write(scratch, "shared/tests", GIVEN, given);
            return scratch.run("shared", script.toString());
        }
    }

    private static void write(Scratch scratch, String place, String[] names, String[] bodies) throws IOException {
        for (int k = 0; k < bodies.length; k++) {
            scratch.write(place + "/" + names[k] + ".java",
                    "final class " + names[k] + " { public static void main(String[] args) { " + bodies[k] + " } }");
        }
    }
}
