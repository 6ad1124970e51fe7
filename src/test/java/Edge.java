import java.io.IOException;
import java.io.UncheckedIOException;
import java.nio.file.Files;
import java.nio.file.Path;
import java.util.NoSuchElementException;
import java.util.function.Consumer;

/**
 * What the tests of the document's sentences share (Edge*Test: its edges; Tells*Test: all others). A test begins
 * with says(): the promise (0 for the terms), and a sentence that stands there word by word; what it checks bears both
 * when it is wrong.
 */
final class Edge {
  static final Class<IllegalArgumentException> ARGUMENT = IllegalArgumentException.class;
  static final Class<IndexOutOfBoundsException> INDEX = IndexOutOfBoundsException.class;
  static final Class<IllegalStateException> STATE = IllegalStateException.class;
  static final Class<NoSuchElementException> ELEMENT = NoSuchElementException.class;
  static final Class<UnsupportedOperationException> OPERATION = UnsupportedOperationException.class;
  static final Class<ArithmeticException> ARITHMETIC = ArithmeticException.class;

  static final int LEAST = Integer.MIN_VALUE;
  static final int GREATEST = Integer.MAX_VALUE;
  static final int TERMS = 0;
  static final int WHOLE = -1;

  private static final String DOCUMENT = read();
  private static String about = "";

  private Edge() {
  }

  // ---- the document

  static String read() {
    try {
      return Files.readString(Path.of("..", "shared", "DOC.md"));
    } catch (IOException e) {
      throw new UncheckedIOException(e);
    }
  }

  /** The part of the document in which a promise stands, or the terms, or what is said of it as a whole. */
  static String part(int promise) {
    String named = promise == TERMS ? "\n## Terms\n" : "\n## What it is\n";
    String head = promise > TERMS ? "\n## Promise " + promise + ":" : named;
    int start = DOCUMENT.indexOf(head);
    int end = DOCUMENT.indexOf("\n## ", start + 1);
    return start < 0 || end < 0 ? "" : DOCUMENT.substring(start, end + 1);
  }

  static void says(int promise, String sentence) {
    String named = promise == TERMS ? "terms" : "what it is";
    about = (promise > TERMS ? "promise " + promise : named) + ", \"" + sentence + "\"";
    Check.yes(about + ": does not stand there; it", part(promise).contains(sentence));
  }

  /** A case of a sentence that names more than one. */
  static void says(int promise, String sentence, String oneCase) {
    says(promise, sentence);
    Check.yes(about + ": no such case: " + oneCase + "; it", sentence.contains(oneCase));
    about = about + " (" + oneCase + ")";
  }

  // ---- checks

  static void same(String what, long got, long due) {
    Check.same(about + ": " + what, got, due);
  }

  static void sameReal(String what, double got, double due) {
    Check.sameReal(about + ": " + what, got, due);
  }

  static void sameText(String what, String got, String due) {
    Check.sameText(about + ": " + what, got, due);
  }

  static void yes(String what, boolean got) {
    Check.yes(about + ": " + what, got);
  }

  static void no(String what, boolean got) {
    Check.no(about + ": " + what, got);
  }

  static void fails(String what, Class<? extends RuntimeException> due, Runnable call) {
    Check.fails(about + ": " + what, due, call);
  }

  /** One step of the collector, and the colours of the first objects and the phase behind it. */
  static void step(MarrowHeap x, int count, String due) {
    same("a step", x.collect(1), 1);
    sameText("colours and phase", Look.colours(x, count), due);
  }

  /** A call that is refused in this scene, and behind which nothing has changed: neither at once nor later. */
  static void refuses(Scene scene, String what, Class<? extends RuntimeException> due, Consumer<MarrowHeap> call) {
    MarrowHeap x = scene.fresh();
    refusesHere(x, what, due, () -> call.accept(x));
    for (int way = 0; way < Look.WAYS; way++) {
      MarrowHeap y = scene.fresh();
      try {
        call.accept(y);
      } catch (RuntimeException e) {
        // what it throws was looked at above
      }
      sameText(what + ": later, on way " + way, Look.later(y, way), scene.later(way));
    }
  }

  /** A call that is refused by this database, which looks as before behind it. */
  static void refusesHere(MarrowHeap x, String what, Class<? extends RuntimeException> due, Runnable call) {
    String before = Look.at(x);
    fails(what, due, call);
    sameText(what + ": nothing has changed", Look.at(x), before);
  }

  /** A call that is not refused in this scene, and its answer. */
  static MarrowHeap answers(Scene scene, String what, long due, java.util.function.ToLongFunction<MarrowHeap> call) {
    MarrowHeap x = scene.fresh();
    long got = 0;
    String thrown = "nothing";
    try {
      got = call.applyAsLong(x);
    } catch (RuntimeException e) {
      thrown = e.getClass().getName();
    }
    sameText(what + " throws", thrown, "nothing");
    same(what, got, due);
    return x;
  }
}
