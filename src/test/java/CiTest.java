import java.io.File;
import java.io.IOException;
import java.nio.charset.StandardCharsets;
import java.nio.file.Files;
import java.nio.file.Path;
import java.nio.file.StandardCopyOption;

/** .ci/run ends as README.md says: tried in small projects of their own, with a shared folder beside each. */
public final class CiTest {
    private static final Due DUE = new Due("CiTest");
    private static final Path ROOM = Path.of("build", "tried");
    private static final String PASSES = "System.out.println(\"looked at \" + CreasedPaper.NONE);";
    private static final String FAILS = "System.exit(1);";
    private static final String NO_JAVA = "this is no Java;";

    public static void main(String[] args) throws IOException, InterruptedException {
        DUE.is(".ci/run can be executed", Files.isExecutable(Path.of(".ci", "run")), true);
        String said = run("passes", PASSES, PASSES, 0);
        DUE.is("the shared test and the project's were run", said.split("looked at -1", -1).length - 1, 2);
        run("shared-fails", FAILS, PASSES, 1);
        run("shared-is-no-java", NO_JAVA, PASSES, 1);
        run("no-shared", null, PASSES, 1);
        run("own-fails", PASSES, FAILS, 1);
        run("own-is-no-java", PASSES, NO_JAVA, 1);
        DUE.end();
    }

    /** What was printed; a shared body of null is no shared test at all. */
    private static String run(String name, String shared, String own, int due)
            throws IOException, InterruptedException {
        Path project = ROOM.resolve(name).resolve("main");
        Path tests = ROOM.resolve(name).resolve("shared").resolve("tests");
        Files.createDirectories(tests);
        write(project.resolve("src/main/java/CreasedPaper.java"),
                "public final class CreasedPaper { public static final int NONE = -1; }");
        write(project.resolve("src/test/java/OwnTest.java"), test("OwnTest", own));
        if (shared != null) {
            write(tests.resolve("SharedRuns.java"), test("SharedRuns", shared));
        }
        Path script = project.resolve(".ci/run");
        Files.createDirectories(script.getParent());
        Files.copy(Path.of(".ci", "run"), script, StandardCopyOption.REPLACE_EXISTING,
                StandardCopyOption.COPY_ATTRIBUTES);
        File log = ROOM.resolve(name).resolve("log").toFile();
        Process process = new ProcessBuilder(script.toAbsolutePath().toString()).redirectErrorStream(true)
                .redirectOutput(log).start();
        DUE.is(".ci/run in " + name, process.waitFor(), due);
        return Files.readString(log.toPath());
    }

    private static String test(String name, String body) {
        return "public final class " + name + " { public static void main(String[] args) { " + body + " } }";
    }

    private static void write(Path file, String text) throws IOException {
        Files.createDirectories(file.getParent());
        Files.write(file, text.getBytes(StandardCharsets.UTF_8));
    }
}
