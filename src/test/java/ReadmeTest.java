import java.io.IOException;
import java.lang.reflect.Method;
import java.lang.reflect.Modifier;
import java.nio.file.Files;
import java.nio.file.Path;
import java.util.TreeSet;
import java.util.regex.Matcher;
import java.util.regex.Pattern;
import java.util.stream.Stream;
import javax.tools.ToolProvider;

/** README.md tells what is so: its program compiles and prints what stands there, and it names all calls. */
public final class ReadmeTest {
  public static void main(String[] args) throws Exception {
    String readme = Files.readString(Path.of("README.md"));
    Path work = Files.createTempDirectory("readme");
    try {
      programPrintsWhatStandsThere(readme, work);
    } finally {
      delete(work);
    }
    allCallsAreNamed(readme);
    allExceptionsAreNamed(readme);
    commandsAndFilesAreThere(readme);
    Check.end("ReadmeTest");
  }

  private static String block(String readme, String sort) {
    Matcher matcher = Pattern.compile("(?s)```" + sort + "\n(.*?)```\n").matcher(readme);
    boolean found = matcher.find();
    Check.yes("README.md has a block of " + sort, found);
    return found ? matcher.group(1) : "";
  }

  private static void programPrintsWhatStandsThere(String readme, Path work) throws Exception {
    Path source = work.resolve("Example.java");
    Files.writeString(source, block(readme, "java"));
    int failed = ToolProvider.getSystemJavaCompiler().run(null, null, null, "-d", work.toString(), source.toString(),
        Path.of("src", "main", "java", "MarrowHeap.java").toString());
    Check.same("the program compiles", failed, 0);
    Path java = Path.of(System.getProperty("java.home"), "bin", "java");
    Process process = new ProcessBuilder(java.toString(), "-cp", work.toString(), "Example").redirectErrorStream(true)
        .start();
    String printed = new String(process.getInputStream().readAllBytes());
    Check.same("the program ends", process.waitFor(), 0);
    Check.sameText("the program", printed.replace("\r", ""), block(readme, "text"));
  }

  private static void allCallsAreNamed(String readme) {
    int calls = 0;
    for (Method method : MarrowHeap.class.getDeclaredMethods()) {
      if (Modifier.isPublic(method.getModifiers())) {
        calls++;
        Check.yes("the table names " + method.getName(), readme.contains("`" + method.getName() + "`"));
      }
    }
    Check.same("calls", calls, 45);
  }

  private static void allExceptionsAreNamed(String readme) {
    TreeSet<String> exceptions = new TreeSet<>();
    for (Method method : MarrowHeap.class.getDeclaredMethods()) {
      for (Class<?> thrown : method.getExceptionTypes()) {
        exceptions.add(thrown.getSimpleName());
      }
    }
    Check.same("exceptions", exceptions.size(), 6);
    for (String exception : exceptions) {
      Check.yes("the table names " + exception, readme.contains("\n| `" + exception + "` |"));
    }
  }

  private static void commandsAndFilesAreThere(String readme) {
    Check.yes("the one command", readme.contains("\n    .ci/run\n") && Files.isExecutable(Path.of(".ci", "run")));
    Matcher file = Pattern.compile("(src/[\\w/]+\\.java|\\.\\./shared/[\\w/]+\\.(?:java|md))").matcher(readme);
    int files = 0;
    while (file.find()) {
      files++;
      Check.yes(file.group() + " is there", Files.exists(Path.of(file.group())));
    }
    Check.yes("files: " + files, files > 5);
  }

  private static void delete(Path work) throws IOException {
    try (Stream<Path> all = Files.list(work)) {
      for (Path one : all.toList()) {
        Files.delete(one);
      }
    }
    Files.delete(work);
  }
}
