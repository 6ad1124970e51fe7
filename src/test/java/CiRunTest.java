import java.io.IOException;
import java.nio.file.Files;
import java.nio.file.Path;
import java.util.Comparator;
import java.util.List;
import java.util.stream.Stream;

/** .ci/run itself, in a small project that is made for this: it runs all tests, and fails if one fails. */
public final class CiRunTest {
  private static final String PASSES = "public final class NAME { public static void main(String[] args) {"
      + " System.out.println(\"NAME: \" + new MarrowHeap().toString().isEmpty()); } }";
  private static final String FAILS = "public final class NAME { public static void main(String[] args) {"
      + " System.out.println(\"wrong\"); System.exit(1); } }";
  private static final String BROKEN = "public final class NAME { int }";
  private static final String OWN = "src/test/java/OwnTest.java";
  private static final String SHARED = "../shared/tests/Shared.java";

  private final Path work;
  private String printed = "";

  private CiRunTest(Path work) {
    this.work = work;
  }

  public static void main(String[] args) throws Exception {
    allIsWell();
    oneFails();
    oneDoesNotCompile();
    testsAreMissing();
    Check.end("CiRunTest");
  }

  // ---- the small project

  private static CiRunTest project() throws IOException {
    CiRunTest test = new CiRunTest(Files.createTempDirectory("cirun"));
    Path script = test.work.resolve("main").resolve(".ci").resolve("run");
    Files.createDirectories(script.getParent());
    Files.copy(Path.of(".ci", "run"), script);
    Files.createDirectories(test.work.resolve("shared").resolve("tests"));
    test.put("src/main/java/MarrowHeap.java", "public final class MarrowHeap { }");
    return test;
  }

  private CiRunTest put(String file, String text) throws IOException {
    Path path = work.resolve("main").resolve(file).normalize();
    Files.createDirectories(path.getParent());
    String name = path.getFileName().toString().replace(".java", "");
    Files.writeString(path, text.replace("NAME", name));
    return this;
  }

  /** Runs it from another folder, as it finds its own; all is deleted behind it. Returns whether it passed. */
  private boolean passes() throws Exception {
    Process process = new ProcessBuilder("sh", work.resolve("main").resolve(".ci").resolve("run").toString())
        .directory(work.toFile()).redirectErrorStream(true).start();
    process.getOutputStream().close();
    printed = new String(process.getInputStream().readAllBytes());
    int code = process.waitFor();
    try (Stream<Path> all = Files.walk(work)) {
      List<Path> paths = all.sorted(Comparator.reverseOrder()).toList();
      for (Path path : paths) {
        Files.delete(path);
      }
    }
    return code == 0;
  }

  private void prints(String line) {
    Check.yes("it prints \"" + line + "\" in\n" + printed, ("\n" + printed).contains("\n" + line + "\n"));
  }

  // ---- what it does

  private static void allIsWell() throws Exception {
    CiRunTest test = project().put(OWN, PASSES).put("src/test/java/Helper.java", FAILS).put(SHARED, PASSES)
        .put("../shared/tests/below/Deep.java", PASSES);
    Check.yes("all is well", test.passes());
    test.prints("OwnTest: false");
    test.prints("passed: " + OWN);
    test.prints("Shared: false");
    test.prints("passed: " + SHARED);
    test.prints("passed: ../shared/tests/below/Deep.java");
    test.prints("3 passed, 0 failed");
    Check.yes("that is its last line", test.printed.endsWith("3 passed, 0 failed\n"));
  }

  private static void oneFails() throws Exception {
    CiRunTest own = project().put(OWN, FAILS).put(SHARED, PASSES);
    Check.no("a test of the project fails", own.passes());
    own.prints("wrong");
    own.prints("FAILED: " + OWN);
    own.prints("passed: " + SHARED);
    own.prints("1 passed, 1 failed");
    CiRunTest shared = project().put(OWN, PASSES).put(SHARED, FAILS);
    Check.no("a shared test fails", shared.passes());
    shared.prints("passed: " + OWN);
    shared.prints("FAILED: " + SHARED);
    CiRunTest deep = project().put(OWN, PASSES).put(SHARED, PASSES).put("../shared/tests/below/Deep.java", FAILS);
    Check.no("a shared test in a folder below fails", deep.passes());
    deep.prints("2 passed, 1 failed");
  }

  private static void oneDoesNotCompile() throws Exception {
    CiRunTest shared = project().put(OWN, PASSES).put(SHARED, BROKEN);
    Check.no("a shared test does not compile", shared.passes());
    shared.prints("FAILED: " + SHARED);
    CiRunTest program = project().put(OWN, PASSES).put(SHARED, PASSES)
        .put("src/main/java/MarrowHeap.java", "public final class NAME { int }");
    Check.no("the program does not compile", program.passes());
    program.prints("0 passed, 2 failed");
  }

  private static void testsAreMissing() throws Exception {
    CiRunTest shared = project().put(OWN, PASSES);
    Check.no("there is no shared test", shared.passes());
    shared.prints("tests are missing");
    CiRunTest own = project().put(SHARED, PASSES).put("src/test/java/Helper.java", PASSES);
    Check.no("there is no test of the project", own.passes());
    own.prints("tests are missing");
    CiRunTest none = project().put(OWN, PASSES);
    Files.delete(none.work.resolve("shared").resolve("tests"));
    Check.no("there is no folder of shared tests", none.passes());
    none.prints("there is no ../shared/tests");
  }
}
