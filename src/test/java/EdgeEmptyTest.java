import java.util.function.Consumer;
import java.util.function.ToLongFunction;

/** Each call of the face on the empty database: what it answers there, or how it is refused. */
public final class EdgeEmptyTest {
  public static void main(String[] args) {
    kinds();
    transactions();
    openTransactions();
    collector();
    pages();
    indexesAndFigures();
    Check.end("EdgeEmptyTest");
  }

  private static void answers(String what, long due, ToLongFunction<MarrowHeap> call) {
    Edge.answers(Scene.EMPTY, what, due, call);
  }

  private static void refuses(String what, Class<? extends RuntimeException> due, Consumer<MarrowHeap> call) {
    Edge.refuses(Scene.EMPTY, what, due, call);
  }

  private static void kinds() {
    Edge.says(1, "Creates a database without kinds, pages and objects.");
    answers("addKind", 0, x -> x.addKind(-1, false));
    answers("addKind with an end", 0, x -> x.addKind(-1, true));
    refuses("addKind below 0", Edge.ARGUMENT, x -> x.addKind(0, false));
    refuses("addField", Edge.INDEX, x -> x.addField(0, 'n'));
    refuses("fieldsOf", Edge.INDEX, x -> x.fieldsOf(0));
    refuses("isKind", Edge.INDEX, x -> x.isKind(0, 0));
  }

  private static void transactions() {
    Edge.says(1, "Creates a database without kinds, pages and objects.");
    for (int transaction = 0; transaction < 3; transaction++) {
      int it = transaction;
      answers("begin", 1, x -> x.begin(it));
      answers("heldBy", 0, x -> x.heldBy(it));
      answers("isOpen", 0, x -> x.isOpen(it) ? 1 : 0);
      refuses("make", Edge.INDEX, x -> x.make(it, 0));
      refuses("lock", Edge.INDEX, x -> x.lock(it, 0));
      refuses("setNumber", Edge.INDEX, x -> x.setNumber(it, 0, 0, 0));
      refuses("number", Edge.INDEX, x -> x.number(it, 0, 0));
      refuses("link", Edge.INDEX, x -> x.link(it, 0, 0, -1));
      refuses("follow", Edge.INDEX, x -> x.follow(it, 0, 0));
      refuses("setRoot to none", Edge.STATE, x -> x.setRoot(it, 0, -1));
      refuses("setRoot to an object", Edge.INDEX, x -> x.setRoot(it, 0, 0));
      refuses("commit", Edge.STATE, x -> x.commit(it));
      refuses("abort", Edge.STATE, x -> x.abort(it));
      refuses("crash", Edge.STATE, x -> x.crash(it, 0));
      refuses("callEnd", Edge.STATE, x -> x.callEnd(it));
    }
    for (int root = 0; root < 4; root++) {
      int it = root;
      answers("root", -1, x -> x.root(it));
    }
    answers("crash without a transaction", 0, x -> x.crash(-1, 0));
  }

  private static void openTransactions() {
    Edge.says(1, "Creates a database without kinds, pages and objects.");
    Scene open = Scene.of(() -> {
      MarrowHeap x = new MarrowHeap();
      x.begin(0);
      x.begin(1);
      x.begin(2);
      return x;
    });
    Edge.answers(open, "commit", 0, x -> x.commit(0));
    Edge.answers(open, "abort", 0, x -> x.abort(1));
    Edge.answers(open, "crash, none has committed", 3, x -> x.crash(0, 0));
    Edge.answers(open, "crash, one has committed", 2, x -> x.crash(0, 1));
    Edge.answers(open, "heldBy", 0, x -> x.heldBy(2));
    Edge.answers(open, "setRoot to none", -1, x -> x.setRoot(2, 3, -1));
    Edge.answers(open, "collect", 99, x -> x.collect(99));
    Edge.refuses(open, "begin", Edge.STATE, x -> x.begin(2));
    Edge.refuses(open, "make", Edge.INDEX, x -> x.make(0, 0));
    Edge.refuses(open, "lock", Edge.INDEX, x -> x.lock(0, 0));
    Edge.refuses(open, "callEnd", Edge.ELEMENT, x -> x.callEnd(0));
    Edge.refuses(open, "usedShare", Edge.ARITHMETIC, x -> x.usedShare());
    Edge.refuses(open, "meanSize", Edge.ARITHMETIC, x -> x.meanSize());
  }

  private static void collector() {
    Edge.says(1, "Creates a database without kinds, pages and objects.");
    answers("collect", 1, x -> x.collect(1));
    answers("phase", 'i', x -> x.phase());
    refuses("colourOf", Edge.INDEX, x -> x.colourOf(0));
    answers("cycles", 0, x -> x.cycles());
    answers("freed", 0, x -> x.freed());
    answers("ends", 0, x -> x.ends());
    refuses("isEnded", Edge.INDEX, x -> x.isEnded(0));
    answers("exists", 0, x -> x.exists(0) ? 1 : 0);
  }

  private static void pages() {
    Edge.says(1, "Creates a database without kinds, pages and objects.");
    refuses("pageOf", Edge.INDEX, x -> x.pageOf(0));
    refuses("sizeOf", Edge.INDEX, x -> x.sizeOf(0));
    refuses("isConverted", Edge.INDEX, x -> x.isConverted(0));
    answers("pages", 0, x -> x.pages());
    refuses("usedOf", Edge.INDEX, x -> x.usedOf(0));
    refuses("forwardsIn", Edge.INDEX, x -> x.forwardsIn(0));
    refuses("isInMemory", Edge.INDEX, x -> x.isInMemory(0));
    answers("faults", 0, x -> x.faults());
    answers("forwarded", 0, x -> x.forwarded());
  }

  private static void indexesAndFigures() {
    Edge.says(1, "Creates a database without kinds, pages and objects.");
    refuses("addIndex", Edge.INDEX, x -> x.addIndex(0, 0, -1, -1));
    refuses("countOf", Edge.INDEX, x -> x.countOf(0, 0));
    refuses("countAnew", Edge.INDEX, x -> x.countAnew(0, 0));
    refuses("isReached", Edge.INDEX, x -> x.isReached(0));
    answers("unreached", 0, x -> x.unreached());
    answers("changes", 0, x -> x.changes());
    refuses("usedShare", Edge.ARITHMETIC, x -> x.usedShare());
    refuses("meanSize", Edge.ARITHMETIC, x -> x.meanSize());
    answers("isSound", 1, x -> x.isSound() ? 1 : 0);
  }
}
