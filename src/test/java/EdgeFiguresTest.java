/** The edges of the promises 41 to 46. */
public final class EdgeFiguresTest {
  public static void main(String[] args) {
    isReachedRefusesObjectsThatAreNotThere();
    unreachedGoesFromNoneToAll();
    changesCountSetNumberAndLinkAlone();
    usedShareFailsWithoutPages();
    usedShareIsAFloat();
    meanSizeFailsWithoutObjects();
    meanSizeIsADouble();
    allIsSoundAtTheEdges();
    Check.end("EdgeFiguresTest");
  }

  private static void isReachedRefusesObjectsThatAreNotThere() {
    Edge.says(41, "Throws `IndexOutOfBoundsException` if there is no such object");
    Edge.refuses(Scene.EMPTY, "object 0 of an empty database", Edge.INDEX, x -> x.isReached(0));
    for (int object : new int[] {5, 7, 8, 99, 100, -1, -2, Edge.LEAST, Edge.GREATEST}) {
      Edge.refuses(Scene.SMALL, "object " + object, Edge.INDEX, x -> x.isReached(object));
    }
    Edge.refuses(Scene.FULL, "object 100 of a full database", Edge.INDEX, x -> x.isReached(100));
    int[] due = {1, 1, 1, 0, 0, -1, 0};
    for (int object = 0; object < due.length; object++) {
      int it = object;
      if (due[it] >= 0) {
        Edge.answers(Scene.SMALL, "object " + it, due[it], x -> x.isReached(it) ? 1 : 0);
      }
    }
    Edge.answers(Scene.FULL, "the last of a full database", 0, x -> x.isReached(99) ? 1 : 0);
    Edge.answers(Scene.FULL, "its page's first", 1, x -> x.isReached(92) ? 1 : 0);
  }

  private static void unreachedGoesFromNoneToAll() {
    Edge.says(42, "Returns how many objects are not in hand now.");
    Edge.answers(Scene.EMPTY, "none", 0, x -> x.unreached());
    Edge.answers(Scene.SMALL, "all are in hand", 0, x -> x.unreached());
    Edge.answers(Scene.FULL, "the pages 0 to 7, but for their firsts", 4 * 8 + 4 * 7, x -> x.unreached());
    MarrowHeap x = new MarrowHeap();
    x.addKind(-1, false);
    x.begin(0);
    for (int i = 0; i < 64; i++) {
      x.make(0, 0);
    }
    Edge.same("held", x.unreached(), 0);
    x.commit(0);
    Edge.same("all", x.unreached(), 64);
  }

  private static void changesCountSetNumberAndLinkAlone() {
    Edge.says(43, "Returns how many changes of objects there have been by setNumber and link.");
    Edge.answers(Scene.EMPTY, "none", 0, x -> x.changes());
    Edge.answers(Scene.SMALL, "five", 5, x -> x.changes());
    MarrowHeap x = Scene.SMALL.fresh();
    x.setNumber(0, 0, 0, 0);
    Edge.same("a number set to what it was", x.changes(), 6);
    x.link(0, 0, 2, -1);
    Edge.same("a reference set to what it was", x.changes(), 7);
    Edge.fails("refused", Edge.ARGUMENT, () -> x.setNumber(0, 0, 0, 10000));
    Edge.fails("refused", Edge.ELEMENT, () -> x.link(0, 0, 0, -1));
    x.number(0, 0, 0);
    x.follow(0, 0, 1);
    x.setRoot(0, 3, 0);
    x.make(0, 0);
    x.abort(0);
    x.collect(9);
    x.crash(-1, 0);
    Edge.same("nothing else counts, and nothing is undone", x.changes(), 7);
  }

  private static void usedShareFailsWithoutPages() {
    Edge.says(44, "Throws `ArithmeticException` if there are no pages");
    Edge.refuses(Scene.EMPTY, "empty", Edge.ARITHMETIC, x -> x.usedShare());
    Scene gone = Scene.of(() -> {
      MarrowHeap x = new MarrowHeap();
      x.addKind(-1, false);
      x.begin(0);
      x.make(0, 0);
      x.abort(0);
      return x;
    });
    Edge.refuses(gone, "the only one is gone", Edge.ARITHMETIC, x -> x.usedShare());
    MarrowHeap x = gone.fresh();
    x.begin(0);
    x.make(0, 0);
    Edge.sameReal("one page", x.usedShare(), 1f / 16f);
    x.commit(0);
    x.collect(2);
    Edge.same("it is empty, but there", x.pages(), 1);
    Edge.sameReal("nothing is used", x.usedShare(), 0f);
  }

  private static void usedShareIsAFloat() {
    Edge.says(44, "Returns their number divided by that of all units of all pages, both converted to float.");
    Edge.sameReal("full", Scene.FULL.fresh().usedShare(), 1f);
    Edge.sameReal("small", Scene.SMALL.fresh().usedShare(), 22f / 32f);
    MarrowHeap x = Scene.chain(2);
    x.begin(0);
    x.make(0, 1);
    Edge.sameReal("a share that no float is", x.usedShare(), 33f / 48f);
    x.make(0, 1);
    Edge.sameReal("another", x.usedShare(), 34f / 48f);
    MarrowHeap y = Scene.chain(2, 0);
    y.addField(0, 'n');
    y.number(0, 0, 3);
    Edge.sameReal("a forward counts", y.usedShare(), 34f / 48f);
  }

  private static void meanSizeFailsWithoutObjects() {
    Edge.says(45, "Throws `ArithmeticException` if there are none");
    Edge.refuses(Scene.EMPTY, "empty", Edge.ARITHMETIC, x -> x.meanSize());
    Edge.refuses(Scene.of(() -> {
      MarrowHeap x = new MarrowHeap();
      x.addKind(-1, false);
      x.begin(0);
      x.make(0, 0);
      x.commit(0);
      x.collect(2);
      return x;
    }), "all are freed, a page is there", Edge.ARITHMETIC, x -> x.meanSize());
    Edge.refuses(Scene.of(() -> {
      MarrowHeap x = new MarrowHeap();
      x.addKind(-1, false);
      x.begin(0);
      x.make(0, 0);
      x.crash(-1, 0);
      return x;
    }), "all are undone", Edge.ARITHMETIC, x -> x.meanSize());
  }

  private static void meanSizeIsADouble() {
    Edge.says(45, "Returns the sum of the sizes divided by the number of objects, both converted to double.");
    Edge.sameReal("full", Scene.FULL.fresh().meanSize(), 192.0 / 100.0);
    Edge.sameReal("small", Scene.SMALL.fresh().meanSize(), 22.0 / 6.0);
    MarrowHeap x = new MarrowHeap();
    x.addKind(-1, false);
    x.begin(0);
    x.make(0, 0);
    Edge.sameReal("the least", x.meanSize(), 1.0);
    for (int i = 0; i < 6; i++) {
      x.addField(0, 'n');
    }
    Edge.sameReal("as it was made", x.meanSize(), 1.0);
    x.number(0, 0, 5);
    Edge.sameReal("the greatest", x.meanSize(), 7.0);
    x.addKind(-1, false);
    x.make(0, 1);
    x.make(0, 1);
    Edge.sameReal("three", x.meanSize(), 9.0 / 3.0);
    MarrowHeap y = Scene.chain(2, 0);
    y.addField(0, 'n');
    y.number(0, 0, 3);
    Edge.sameReal("a forward is no object", y.meanSize(), 33.0 / 8.0);
  }

  private static void allIsSoundAtTheEdges() {
    Edge.says(46, "and at most 16");
    Edge.answers(Scene.EMPTY, "empty", 1, x -> x.isSound() ? 1 : 0);
    Edge.answers(Scene.SMALL, "small", 1, x -> x.isSound() ? 1 : 0);
    Edge.answers(Scene.FULL, "full: 16 units in all pages", 1, x -> x.isSound() ? 1 : 0);
    Scene moved = Scene.of(() -> {
      MarrowHeap x = Scene.chain(2, 0);
      x.addField(0, 'n');
      x.number(0, 0, 3);
      x.number(0, 4, 3);
      return x;
    });
    Edge.answers(moved, "with forwards", 1, x -> x.isSound() ? 1 : 0);
    MarrowHeap x = Scene.FULL.fresh();
    for (int i = 0; i < 300; i++) {
      if (x.collect(1) == 0) {
        x.commit(i % 3);
        x.begin(i % 3);
      }
      Edge.yes("step " + i, x.isSound());
    }
    Edge.yes("many are freed", x.freed() > 50);
  }
}
