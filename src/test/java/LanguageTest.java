import java.nio.file.Files;
import java.nio.file.Path;
import java.util.List;
import java.util.regex.Matcher;
import java.util.regex.Pattern;

/** Rules of LANGUAGE.md that can be seen in the text of the program, and some stricter: it does without try. */
public final class LanguageTest {
  private static final String[] FORBIDDEN = {"->", "::", "@", "\\btry\\b", "\\bcatch\\b", "\\bfinally\\b",
      "\\bsynchronized\\b", "\\bassert\\b", "\\bvolatile\\b", "\\bThread\\b", "\\bSystem\\.(?!arraycopy)",
      "\\bMath\\.\\w+Exact", "\\bhashCode\\b", "\\bequals\\b", "\\btoString\\b", "\\bprotected\\b", "^package\\b",
      "\\bstatic \\{", "\\bdouble\\b.*%", "\\bwhile \\(true\\)", "for \\(;;", "\\bObject\\b"};

  public static void main(String[] args) throws Exception {
    List<String> lines = Files.readAllLines(Path.of("src", "main", "java", "MarrowHeap.java"));
    boolean comment = false;
    for (int i = 0; i < lines.size(); i++) {
      String line = lines.get(i);
      String where = "line " + (i + 1);
      for (char sign : line.toCharArray()) {
        Check.yes(where + " is ASCII", sign >= 32 && sign < 127);
      }
      Check.yes(where + " is short", line.length() <= 120);
      comment = comment || line.trim().startsWith("/**");
      if (!comment && !line.trim().startsWith("//")) {
        checkLine(where, line);
      }
      comment = comment && !line.contains("*/");
    }
    checkLengths(lines);
    Check.end("LanguageTest");
  }

  private static void checkLine(String where, String line) {
    String code = line.replaceAll("\"[^\"]*\"", "\"\"");
    for (String pattern : FORBIDDEN) {
      Check.no(where + " has " + pattern, Pattern.compile(pattern).matcher(code).find());
    }
    if (code.startsWith("import ")) {
      boolean known = code.equals("import java.util.Arrays;") || code.equals("import java.util.NoSuchElementException;");
      Check.yes(where + " imports what is allowed", known);
    }
    if (code.contains("throw ")) {
      Matcher matcher = Pattern.compile("^ *throw new (IllegalStateException|IllegalArgumentException"
          + "|IndexOutOfBoundsException|ArithmeticException|UnsupportedOperationException"
          + "|NoSuchElementException)\\(\"\"\\);$").matcher(code);
      Check.yes(where + " throws by the rule", matcher.find());
    }
    if (Pattern.compile("\\bstatic\\b").matcher(code).find()) {
      boolean right = code.contains("static final") || code.contains("(");
      Check.yes(where + " static is final", right);
    }
    boolean joined = code.contains("\"\" +") || code.contains("+ \"\"");
    Check.no(where + " joins texts by +", joined);
  }

  /** A method begins at an indent of two or four with a line that opens it, and ends at the same indent. */
  private static void checkLengths(List<String> lines) {
    int start = -1;
    String indent = "";
    Pattern head = Pattern.compile("^( {2}| {4})(?!private static final class)\\S.*\\{$|^( {2}| {4})\\S.*\\($");
    for (int i = 0; i < lines.size(); i++) {
      String line = lines.get(i);
      boolean isClass = line.contains(" class ");
      if (start < 0 && !isClass && head.matcher(line).find()) {
        start = i;
        indent = line.substring(0, line.indexOf(line.trim()));
      } else if (start >= 0 && line.equals(indent + "}")) {
        Check.yes("method at line " + (start + 1) + " is short", i - start <= 60);
        start = -1;
      }
    }
    Check.same("all methods end", start, -1);
  }
}
