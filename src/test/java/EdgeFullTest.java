import java.util.function.Consumer;
import java.util.function.ToLongFunction;

/** The full database: it has all that the terms allow at once, and each call of the face meets its limits there. */
public final class EdgeFullTest {
  public static void main(String[] args) {
    isFull();
    kindsAndFields();
    objects();
    pagesAndMemory();
    transactions();
    indexes();
    collector();
    figures();
    oneStepBack();
    pagesChangedThen();
    Check.end("EdgeFullTest");
  }

  private static void answers(String what, long due, ToLongFunction<MarrowHeap> call) {
    Edge.answers(Scene.FULL, what, due, call);
  }

  private static void refuses(String what, Class<? extends RuntimeException> due, Consumer<MarrowHeap> call) {
    Edge.refuses(Scene.FULL, what, due, call);
  }

  private static void isFull() {
    Edge.says(Edge.TERMS, "At most 12 pages are numbered from 0; each has 16 units.");
    answers("8 kinds", 0, x -> x.fieldsOf(7));
    int fields = 0;
    for (int kind = 0; kind < 8; kind++) {
      fields += Scene.FULL.fresh().fieldsOf(kind);
    }
    Edge.same("20 fields", fields, 20);
    answers("6 fields of a kind", 6, x -> x.fieldsOf(2));
    answers("100 objects", 1, x -> x.exists(99) ? 1 : 0);
    answers("12 pages", 12, x -> x.pages());
    int inside = 0;
    for (int page = 0; page < 12; page++) {
      Edge.same("16 units of page " + page, Scene.FULL.fresh().usedOf(page), 16);
      inside += Scene.FULL.fresh().isInMemory(page) ? 1 : 0;
    }
    Edge.same("4 pages in memory", inside, 4);
    answers("3 indexes", 7, x -> x.countOf(2, 0));
    for (int transaction = 0; transaction < 3; transaction++) {
      int it = transaction;
      answers("open: " + it, 1, x -> x.isOpen(it) ? 1 : 0);
    }
  }

  private static void kindsAndFields() {
    Edge.says(Edge.TERMS, "At most 8 kinds and 20 fields are numbered from 0.");
    refuses("a ninth kind", Edge.STATE, x -> x.addKind(-1, false));
    refuses("a ninth kind below the last", Edge.STATE, x -> x.addKind(7, true));
    for (int kind = 0; kind < 8; kind++) {
      int it = kind;
      refuses("a field of kind " + it, Edge.STATE, x -> x.addField(it, 'n'));
    }
    answers("isKind", 1, x -> x.isKind(99, 0) ? 1 : 0);
    answers("isKind of another", 0, x -> x.isKind(99, 7) ? 1 : 0);
  }

  private static void objects() {
    Edge.says(7, "Throws `IllegalStateException` if the transaction is not open, or 100 objects were made");
    for (int transaction = 0; transaction < 3; transaction++) {
      for (int kind = 0; kind < 8; kind++) {
        int t = transaction;
        int it = kind;
        refuses("make", Edge.STATE, x -> x.make(t, it));
      }
    }
    answers("setNumber of the last that has a number", 0, x -> x.setNumber(2, 94, 0, 9999));
    answers("number", 0, x -> x.number(2, 94, 0));
    answers("link", -1, x -> x.link(2, 92, 3, 99));
    answers("follow", -1, x -> x.follow(2, 92, 2));
    refuses("the last has no field", Edge.ELEMENT, x -> x.number(2, 99, 0));
    refuses("field 19 is another kind's", Edge.ELEMENT, x -> x.follow(2, 92, 19));
    refuses("field 20", Edge.ELEMENT, x -> x.number(2, 92, 20));
    refuses("lock what is not in hand", Edge.ELEMENT, x -> x.lock(0, 1));
    refuses("lock what another holds", Edge.OPERATION, x -> x.lock(0, 99));
    answers("lock what it holds", 0, x -> x.lock(0, 60));
  }

  private static void pagesAndMemory() {
    Edge.says(Edge.TERMS, "At most 4 pages are in memory.");
    refuses("number in page 0", Edge.OPERATION, x -> x.number(0, 0, 1));
    refuses("setNumber in page 0", Edge.OPERATION, x -> x.setNumber(0, 0, 1, 5));
    refuses("link in page 0", Edge.OPERATION, x -> x.link(0, 0, 2, -1));
    refuses("follow in page 0", Edge.OPERATION, x -> x.follow(0, 0, 2));
    answers("pageOf", 11, x -> x.pageOf(99));
    answers("sizeOf", 7, x -> x.sizeOf(92));
    answers("isConverted", 1, x -> x.isConverted(92) ? 1 : 0);
    answers("forwardsIn", 0, x -> x.forwardsIn(11));
    answers("faults: each page once, and the chain met none", 12, x -> x.faults());
    answers("forwarded", 0, x -> x.forwarded());
  }

  private static void transactions() {
    Edge.says(Edge.TERMS, "The transactions 0 to 2 can be open.");
    for (int transaction = 0; transaction < 3; transaction++) {
      int it = transaction;
      refuses("begin", Edge.STATE, x -> x.begin(it));
      answers("commit", it == 2 ? 2 : 1, x -> x.commit(it));
      answers("abort", it == 2 ? 2 : 1, x -> x.abort(it));
      answers("heldBy", it == 1 ? 8 : 16, x -> x.heldBy(it));
      answers("crash ahead of its last step", 3, x -> x.crash(it, it == 2 ? 2 : 1));
      answers("crash behind it", 2, x -> x.crash(it, it == 2 ? 3 : 2));
      refuses("callEnd", Edge.ELEMENT, x -> x.callEnd(it));
    }
    for (int root = 0; root < 4; root++) {
      int it = root;
      answers("root", new int[] {60, 68, 76, 92}[it], x -> x.root(it));
    }
    refuses("setRoot of another's", Edge.OPERATION, x -> x.setRoot(0, 3, 60));
    answers("setRoot of its own", 68, x -> x.setRoot(0, 1, -1));
    answers("setRoot that none changed", 60, x -> x.setRoot(1, 0, 76));
  }

  private static void indexes() {
    Edge.says(38, "Throws `IllegalStateException` if there are 3 indexes");
    refuses("a fourth index", Edge.STATE, x -> x.addIndex(1, 0, -1, -1));
    refuses("the same once more", Edge.STATE, x -> x.addIndex(2, 2, 1, -1));
    answers("countOf", 20, x -> x.countOf(0, 0));
    answers("countAnew", 20, x -> x.countAnew(0, 0));
  }

  private static void collector() {
    Edge.says(20, "Returns how many steps it made.");
    MarrowHeap x = Scene.FULL.fresh();
    Edge.same("i, and m of all that is in hand", x.collect(1 + 40), 41);
    Edge.same("in m", x.phase(), 'm');
    Edge.same("in m", x.colourOf(99), 'b');
    Edge.same("all that is not in hand is freed", x.collect(60), 60);
    Edge.same("in s", x.phase(), 's');
    Edge.same("freed", x.freed(), 60);
    Edge.same("as many steps as there can be, over two cycles more", x.collect(99), 99);
    Edge.same("cycles", x.cycles(), 3);
  }

  private static void figures() {
    Edge.says(44, "Returns their number divided by that of all units of all pages, both converted to float.");
    Edge.sameReal("usedShare", Scene.FULL.fresh().usedShare(), 1f);
    Edge.sameReal("meanSize", Scene.FULL.fresh().meanSize(), 1.92);
    answers("unreached", 60, x -> x.unreached());
    answers("changes", 7, x -> x.changes());
    answers("isSound", 1, x -> x.isSound() ? 1 : 0);
    answers("isReached", 1, x -> x.isReached(0) ? 1 : 0);
  }

  private static void oneStepBack() {
    Edge.says(Edge.TERMS, "Numbers of objects are used once only.");
    MarrowHeap x = Scene.FULL.fresh();
    x.abort(2);
    Edge.same("pages", x.pages(), 10);
    Edge.refusesHere(x, "all numbers are used", Edge.STATE, () -> x.make(0, 0));
    Edge.same("memory has room", x.number(0, 0, 1), 0);
    Edge.same("for two", x.number(0, 9, 1), 0);
    Edge.same("and the first leaves for a third", x.number(0, 18, 1), 0);
    Edge.no("page 0", x.isInMemory(0));
    Edge.same("begun again", x.begin(2), 3);
  }

  private static void pagesChangedThen() {
    Edge.says(Edge.TERMS, "When it is aborted, all pages that it changed are as they were when it changed them first");
    for (boolean keep : new boolean[] {true, false}) {
      MarrowHeap x = Scene.FULL.fresh();
      Edge.same("2 pages may leave memory", x.commit(2), 2);
      Edge.same("page 0 is changed first now", x.setNumber(0, 0, 1, 5), 0);
      Edge.same("page 1 too", x.setNumber(0, 9, 1, 6), 0);
      Edge.refusesHere(x, "no fifth page", Edge.OPERATION, () -> x.number(0, 18, 1));
      Edge.same("pages that it changed", keep ? x.commit(0) : x.abort(0), 3);
      Edge.same("page 8 is in the middle: it stays", x.pages(), 12);
      Edge.same("used of it", x.usedOf(8), keep ? 16 : 0);
      x.begin(0);
      Edge.same("the chain", x.lock(0, 60), 8);
      Edge.same("number of page 0", x.number(0, 0, 1), keep ? 5 : 0);
      Edge.same("number of page 1", x.number(0, 9, 1), keep ? 6 : 0);
      Edge.yes("sound", x.isSound());
    }
  }
}
