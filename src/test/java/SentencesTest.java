import java.nio.file.Files;
import java.nio.file.Path;
import java.util.ArrayList;
import java.util.Arrays;
import java.util.List;
import java.util.TreeSet;
import java.util.regex.Matcher;
import java.util.regex.Pattern;
import java.util.stream.Stream;

/**
 * Each sentence of the document is named by a test: by a call of Edge.says in one of the files Edge*Test.java, if it
 * names an edge, or Tells*Test.java. (That what is named there stands in the document, says() looks at itself.)
 */
public final class SentencesTest {
  private static final String[] TERMS = {
    "At most 8 kinds and 20 fields are numbered from 0.",
    "At most 12 pages are numbered from 0; each has 16 units.",
    "or else into a new page, if there are fewer than 12",
    "An object that is converted stays in its page if this has room for its new size",
    "A page can be changed by a transaction if no other transaction that is open now has changed it.",
    "A weak reference to an object that is not there any more refers to none.",
    "At most 4 pages are in memory.",
    "if there is none, memory is full",
    "The transactions 0 to 2 can be open.",
    "those that it made are gone from the end on as far as they are empty",
    "Numbers of objects are used once only.",
    "if as many steps are done, it has committed",
    "by rising numbers",
    "If the phase has no step to make when one is to be made, the next phase begins",
    "hinders the collector: it is not made.",
    "It does not stand there if a reference refers to none, or to an object that is not there any more, or whose kind "
        + "does not have the next field.",
    "A method that throws an exception changes nothing.",
    "If several exceptions apply, the one that is documented first is thrown.",
  };

  /** The cases of sentences that name more than one, behind the number of the promise. */
  private static final String[] CASES = {
    "3 if there are 20 fields", "3 or this kind", "3 or one below it", "5 object", "5 kind",
    "7 if the transaction is not open", "7 or 100 objects were made", "7 if there is no room for it",
    "7 or memory is full", "10 if there is no such transaction", "10 or the value is out of range",
    "10 if the transaction is not open", "10 or the transaction does not hold the object",
    "10 if its page cannot be changed by the transaction", "10 or memory", "10 or pages are full",
    "11 if the transaction is not open", "11 or the transaction does not hold the object", "11 if memory is full",
    "11 or the object must be converted, and its page cannot be changed", "11 or pages are full", "12 for either",
    "12 if the transaction is not open", "12 or it does not hold both objects", "12 both objects",
    "12 if its page cannot be changed by the transaction", "12 or memory", "12 or pages are full",
    "13 if the transaction is not open", "13 or the transaction does not hold the object", "13 if memory is full",
    "13 or the object must be converted, and its page cannot be changed", "13 or pages are full", "14 transaction",
    "14 root", "14 if the transaction is not open", "14 or it does not hold the object",
    "18 if there is no such transaction, and it is not -1", "18 or the number of steps is less than 0",
    "38 its last field must be of the type 'n'", "38 all others of the type 'r'", "38 there is none behind a -1",
    "0 if a reference refers to none", "0 or to an object that is not there any more",
    "0 or whose kind does not have the next field", "0 if there is none, memory is full",
    "0 or else into a new page, if there are fewer than 12",
  };

  private static final Pattern JOINT = Pattern.compile("\"\\s*\\+\\s*\"");
  private static final Pattern CONSTANT = Pattern.compile("static final String (\\w+) =\\s*\"((?:[^\"\\\\]|\\\\.)*)\";");
  private static final Pattern SAYS = Pattern.compile(
      "Edge\\.says\\((\\d+|Edge\\.TERMS|Edge\\.WHOLE),\\s*(\\w+|\"[^\"]*\")(?:,\\s*\"([^\"]*)\")?\\);");

  /** What no test can show: heads, the signature of a call (see FaceTest), the names of the phases ahead of a text. */
  private static final Pattern UNTESTED = Pattern.compile("^## .*$|^`[^`]*`: |^'[imwesf]': "
      + "|^(Kinds|Pages|References|Memory|Transactions|Crashes|The collector|Indexes|Exceptions)\\. "
      + "|^It is not thread-safe\\.$|A step looks like this, by the phase\\.");

  private final TreeSet<String> said = new TreeSet<>();
  private final TreeSet<String> cases = new TreeSet<>();

  public static void main(String[] args) throws Exception {
    SentencesTest test = new SentencesTest();
    List<Path> files = new ArrayList<>();
    try (Stream<Path> all = Files.list(Path.of("src", "test", "java"))) {
      all.filter(file -> file.getFileName().toString().matches("(Edge|Tells)\\w+Test\\.java")).sorted().forEach(files::add);
    }
    for (Path file : files) {
      test.read(Files.readString(file));
    }
    Check.yes("there are tests of sentences", files.size() > 10);
    test.checkPromises();
    test.checkRanges();
    test.checkTerms();
    test.checkCases();
    test.checkEveryWord();
    Check.end("SentencesTest");
  }

  private void read(String source) {
    String text = JOINT.matcher(source).replaceAll("");
    TreeSet<String> constants = new TreeSet<>();
    Matcher constant = CONSTANT.matcher(text);
    while (constant.find()) {
      constants.add(constant.group(1) + "=" + constant.group(2));
    }
    Matcher says = SAYS.matcher(text);
    while (says.find()) {
      String promise = number(says.group(1));
      String sentence = says.group(2);
      if (sentence.startsWith("\"")) {
        sentence = sentence.substring(1, sentence.length() - 1);
      } else {
        String start = sentence + "=";
        String found = constants.ceiling(start);
        Check.yes("constant " + sentence, found != null && found.startsWith(start));
        sentence = found == null ? "" : found.substring(start.length());
      }
      said.add(promise + " " + sentence);
      if (says.group(3) != null) {
        cases.add(promise + " " + says.group(3));
      }
    }
  }

  private static String number(String promise) {
    return promise.equals("Edge.TERMS") ? "0" : promise.equals("Edge.WHOLE") ? "-1" : promise;
  }

  /** Each sentence of a promise that begins with "Throws"; and each promise is named at all. */
  private void checkPromises() {
    for (int promise = 1; promise <= 46; promise++) {
      boolean named = false;
      for (String one : said) {
        named |= one.startsWith(promise + " ");
      }
      String part = Edge.part(promise);
      Check.no("promise " + promise + " is empty", part.isEmpty());
      for (String line : part.split("\n")) {
        if (line.startsWith("Throws ")) {
          Check.yes("promise " + promise + ", " + line + ": a test", said.contains(promise + " " + line));
        }
      }
      Check.yes("promise " + promise + " is named", named);
    }
  }

  /** Each argument of which the document tells a range or what stands for none. */
  private void checkRanges() {
    Pattern range = Pattern.compile("^- (`\\w+`: .*(?:-?\\d+ to \\d+|or -1.*))$", Pattern.MULTILINE);
    int count = 0;
    for (int promise = 1; promise <= 46; promise++) {
      Matcher matcher = range.matcher(Edge.part(promise));
      while (matcher.find()) {
        count++;
        Check.yes("promise " + promise + ", " + matcher.group(1) + ": a test",
            said.contains(promise + " " + matcher.group(1)));
      }
    }
    Check.yes("ranges: " + count, count >= 10);
  }

  private void checkTerms() {
    String terms = Edge.part(Edge.TERMS);
    for (String sentence : TERMS) {
      Check.yes("the terms say: " + sentence, terms.contains(sentence));
      boolean named = false;
      for (String one : said) {
        named |= one.startsWith("0 ") && one.contains(sentence);
      }
      Check.yes("terms, " + sentence + ": a test", named);
    }
  }

  private void checkCases() {
    for (String one : CASES) {
      Check.yes("case " + one + ": a test", cases.contains(one));
    }
  }

  /** Each word of the terms and of the promises stands in a sentence that is named. */
  private void checkEveryWord() {
    for (int promise = Edge.TERMS; promise <= 46; promise++) {
      for (String line : Edge.part(promise).split("\n")) {
        Check.sameText("promise " + promise + " (0 for the terms), what no test names of: " + line,
            notNamed(promise, line), "");
      }
    }
  }

  private String notNamed(int promise, String line) {
    char[] rest = line.toCharArray();
    Matcher untested = UNTESTED.matcher(line);
    while (untested.find()) {
      Arrays.fill(rest, untested.start(), untested.end(), ' ');
    }
    for (String one : said) {
      if (one.startsWith(promise + " ")) {
        String sentence = one.substring(one.indexOf(' ') + 1);
        for (int at = line.indexOf(sentence); at >= 0; at = line.indexOf(sentence, at + 1)) {
          Arrays.fill(rest, at, at + sentence.length(), ' ');
        }
      }
    }
    return new String(rest).replaceAll("[^A-Za-z0-9]+", " ").trim();
  }
}
