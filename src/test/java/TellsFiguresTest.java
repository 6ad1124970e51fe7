/** What the promises 38 to 46 tell, sentence by sentence: what a call does, what an argument is, what is answered. */
public final class TellsFiguresTest {
  public static void main(String[] args) {
    addIndexAdds();
    addIndexTakesAPath();
    addIndexAnswers();
    countOfCounts();
    countAnewCounts();
    isReachedTells();
    unreachedCounts();
    changesCounts();
    usedShareDivides();
    meanSizeDivides();
    isSoundTells();
    fiveHundredAndTwelveCalls();
    Check.end("TellsFiguresTest");
  }

  /**
   * Kind 0: fields 0 'n', 1 'r', 2 'r', 3 'n'; kind 1 below it; kind 2: field 4 'n'. Transaction 0 has made 0 to 3 of
   * the kinds 0, 1, 0, 2. The fields 0 are 5, 6, 5, the fields 3 are 7, 7, 8, field 4 of 3 is 9.
   */
  private static MarrowHeap world() {
    MarrowHeap x = new MarrowHeap();
    x.addKind(-1, false);
    x.addKind(0, true);
    x.addKind(-1, false);
    for (char type : "nrrn".toCharArray()) {
      x.addField(0, type);
    }
    x.addField(2, 'n');
    x.begin(0);
    for (int kind : new int[] {0, 1, 0, 2}) {
      x.make(0, kind);
    }
    int[] first = {5, 6, 5};
    int[] last = {7, 7, 8};
    for (int object = 0; object < 3; object++) {
      x.setNumber(0, object, 0, first[object]);
      x.setNumber(0, object, 3, last[object]);
    }
    x.setNumber(0, 3, 4, 9);
    return x;
  }

  // ---- promises 38 to 40

  private static void addIndexAdds() {
    Edge.says(38, "Adds an index of the objects of a kind by a path.");
    MarrowHeap x = world();
    Edge.fails("not yet", Edge.INDEX, () -> x.countOf(0, 5));
    x.addIndex(0, 0, -1, -1);
    Edge.same("those that are there already stand in it", x.countOf(0, 5), 2);
    x.setNumber(0, x.make(0, 0), 0, 5);
    Edge.same("and those that come", x.countOf(0, 5), 3);
    Edge.says(38, "`kind`: the kind");
    x.addIndex(1, 0, -1, -1);
    Edge.same("0 and 2 are not of kind 1", x.countOf(1, 5), 0);
    Edge.same("1 is", x.countOf(1, 6), 1);
  }

  private static void addIndexTakesAPath() {
    MarrowHeap x = world();
    x.link(0, 0, 1, 1);
    x.link(0, 0, 2, 2);
    x.link(0, 2, 1, 0);
    Edge.says(38, "`first`: the first field of the path");
    x.addIndex(0, 1, 0, -1);
    Edge.same("by field 1 of 0", x.countOf(0, 6), 1);
    Edge.same("by field 1 of 2", x.countOf(0, 5), 1);
    x.addIndex(0, 2, 0, -1);
    Edge.same("by field 2 of 0 alone", x.countOf(1, 5), 1);
    Edge.same("none has 1 there", x.countOf(1, 6), 0);
    Edge.says(38, "`second`: the second one, or -1");
    MarrowHeap y = world();
    y.link(0, 0, 1, 2);
    y.addIndex(0, 1, 0, -1);
    y.addIndex(0, 1, 3, -1);
    y.addIndex(0, 3, -1, -1);
    Edge.same("field 0 of 2", y.countOf(0, 5), 1);
    Edge.same("field 3 of 2", y.countOf(1, 8), 1);
    Edge.same("none: those of the objects themselves", y.countOf(2, 7), 2);
    Edge.says(38, "`third`: the third one, or -1");
    MarrowHeap z = world();
    z.link(0, 0, 1, 1);
    z.link(0, 1, 2, 2);
    z.addIndex(0, 1, 2, 3);
    z.addIndex(0, 1, 2, 0);
    z.addIndex(0, 2, 3, -1);
    Edge.same("field 3 of 2, from 0 by 1", z.countOf(0, 8), 1);
    Edge.same("field 0 of 2", z.countOf(1, 5), 1);
    Edge.same("none: from 1 alone", z.countOf(2, 8), 1);
  }

  private static void addIndexAnswers() {
    Edge.says(38, "Returns the number of the index.");
    MarrowHeap x = world();
    int[] fields = {0, 4, 3};
    int[] values = {5, 9, 8};
    int[] due = {2, 1, 1};
    for (int index = 0; index < 3; index++) {
      Edge.same("the next number", x.addIndex(fields[index] == 4 ? 2 : 0, fields[index], -1, -1), index);
      for (int other = 0; other <= index; other++) {
        Edge.same("by it the index is found", x.countOf(other, values[other]), due[other]);
      }
    }
  }

  private static void countOfCounts() {
    Edge.says(39, "Returns how many objects stand in an index with a value, as it is kept.");
    MarrowHeap x = world();
    x.addIndex(0, 0, -1, -1);
    x.addIndex(0, 3, -1, -1);
    x.setNumber(0, 2, 0, 6);
    Edge.same("with 5", x.countOf(0, 5), 1);
    Edge.same("with 6", x.countOf(0, 6), 2);
    Edge.says(39, "`index`: the index");
    Edge.same("7 in 0", x.countOf(0, 7), 0);
    Edge.same("7 in 1", x.countOf(1, 7), 2);
    Edge.says(39, "`value`: the value");
    Edge.same("7", x.countOf(1, 7), 2);
    Edge.same("8", x.countOf(1, 8), 1);
    Edge.says(39, "Returns the number of objects.");
    x.make(0, 1);
    Edge.same("a new one stands with 0", x.countOf(0, 0), 1);
    Edge.same("an object of kind 2 does not", x.countOf(0, 9), 0);
    x.abort(0);
    for (int value = -9; value <= 9; value++) {
      Edge.same("all are undone: " + value, x.countOf(0, value) + x.countOf(1, value), 0);
    }
  }

  private static void countAnewCounts() {
    MarrowHeap x = world();
    x.addIndex(0, 0, -1, -1);
    x.addIndex(2, 4, -1, -1);
    Edge.says(40, "`index`: the index");
    Edge.same("9 in 0", x.countAnew(0, 9), 0);
    Edge.same("9 in 1", x.countAnew(1, 9), 1);
    Edge.says(40, "`value`: the value");
    Edge.same("5", x.countAnew(0, 5), 2);
    Edge.same("6", x.countAnew(0, 6), 1);
    Edge.says(40, "Returns the number of objects.");
    x.setNumber(0, 0, 0, 6);
    Edge.same("two", x.countAnew(0, 6), 2);
    x.setRoot(0, 0, 0);
    x.commit(0);
    x.collect(99);
    Edge.same("2 is freed", x.countAnew(0, 5), 0);
    Edge.same("1 waits for its end and is there", x.countAnew(0, 6), 2);
  }

  // ---- promises 41 to 46

  private static void isReachedTells() {
    Edge.says(41, "Returns whether an object is reached from the roots now.");
    MarrowHeap x = world();
    x.link(0, 0, 1, 1);
    x.link(0, 1, 2, 2);
    for (int root = 0; root < 4; root++) {
      x.setRoot(0, root, 0);
      for (int object = 0; object < 4; object++) {
        Edge.yes("from root " + root + ", object " + object, x.isReached(object) == object < 3);
      }
      x.setRoot(0, root, -1);
      Edge.no("not any more", x.isReached(0));
    }
    Edge.says(41, "`object`: the object");
    x.setRoot(0, 0, 1);
    Edge.yes("2", x.isReached(2));
    Edge.no("0", x.isReached(0));
    Edge.says(41, "Returns whether it is.");
    x.link(0, 1, 2, -1);
    Edge.no("now", x.isReached(2));
    x.setRoot(0, 3, 2);
    Edge.yes("by another root", x.isReached(2));
  }

  private static void unreachedCounts() {
    Edge.says(42, "Returns how many objects are not in hand now.");
    MarrowHeap x = world();
    Edge.same("all are held", x.unreached(), 0);
    x.link(0, 1, 1, 2);
    x.setRoot(0, 0, 3);
    x.commit(0);
    Edge.same("0, 1 and 2", x.unreached(), 3);
    Edge.says(42, "Returns the number of objects.");
    x.collect(3);
    Edge.same("1 waits, and 2 is reached from it", x.unreached(), 1);
    x.collect(1);
    Edge.same("0 is freed", x.unreached(), 0);
    x.begin(0);
    x.setRoot(0, 0, -1);
    Edge.same("3", x.unreached(), 1);
    x.abort(0);
    Edge.same("undone", x.unreached(), 0);
  }

  private static void changesCounts() {
    Edge.says(43, "Returns the number of changes.");
    MarrowHeap x = new MarrowHeap();
    x.addKind(-1, false);
    x.addField(0, 'n');
    x.addField(0, 'w');
    x.begin(0);
    x.make(0, 0);
    for (int changes = 0; changes < 40; changes += 2) {
      Edge.same("so far", x.changes(), changes);
      x.setNumber(0, 0, 0, changes % 3);
      Edge.same("a number", x.changes(), changes + 1);
      x.link(0, 0, 1, changes % 3 == 0 ? 0 : -1);
    }
  }

  private static void usedShareDivides() {
    Edge.says(44, "Returns the share of the units of all pages that are used.");
    MarrowHeap x = new MarrowHeap();
    x.addKind(-1, false);
    for (int field = 0; field < 6; field++) {
      x.addField(0, 'n');
    }
    x.begin(0);
    for (int object = 1; object <= 24; object++) {
      x.make(0, 0);
      int pages = (object + 1) / 2;
      Edge.same("pages", x.pages(), pages);
      Edge.sameReal("of " + object, x.usedShare(), (float) (7 * object) / (float) (16 * pages));
      x.commit(0);
      x.begin(0);
    }
  }

  private static void meanSizeDivides() {
    Edge.says(45, "Returns the mean size of the objects that there are.");
    MarrowHeap x = new MarrowHeap();
    x.addKind(-1, false);
    x.begin(0);
    int sum = 0;
    for (int object = 0; object < 7; object++) {
      sum += x.sizeOf(x.make(0, 0));
      Edge.sameReal("of " + (object + 1), x.meanSize(), (double) sum / (double) (object + 1));
      if (object < 6) {
        x.addField(0, 'n');
      }
    }
    Edge.sameReal("1 to 7", x.meanSize(), 4.0);
  }

  /** That it answers false where one of these does not hold is looked at by UnsoundTest. */
  private static void isSoundTells() {
    Edge.says(46, "Returns whether all is sound: the used units of each page are the sizes of its objects and its "
        + "forwards, and at most 16; each reference that is not weak, of an object that is in hand, refers to an object "
        + "that there is; each index is the same as found anew; and no object that is in hand is white when the "
        + "collector is in the phase w, e or s.");
    Edge.answers(Scene.EMPTY, "empty", 1, x -> x.isSound() ? 1 : 0);
    Edge.answers(Scene.SMALL, "small", 1, x -> x.isSound() ? 1 : 0);
    Edge.answers(Scene.FULL, "full", 1, x -> x.isSound() ? 1 : 0);
    Edge.says(46, "Returns whether it is.");
    for (int way = 0; way < Look.WAYS; way++) {
      MarrowHeap x = Scene.SMALL.fresh();
      Look.later(x, way);
      Edge.yes("later, on way " + way, x.isSound());
      for (int steps = 0; steps < 40; steps++) {
        x.collect(1);
        Edge.yes("in " + x.phase(), x.isSound());
      }
    }
  }

  /** The last of the calls that are promised answers as the first does. */
  private static void fiveHundredAndTwelveCalls() {
    Edge.says(Edge.WHOLE, "An object is used for at most 512 calls after it has been made");
    MarrowHeap x = new MarrowHeap();
    x.addKind(-1, false);
    x.addField(0, 'n');
    x.begin(0);
    x.make(0, 0);
    for (int call = 5; call < 512; call += 2) {
      Edge.same("before", x.setNumber(0, 0, 0, call), call == 5 ? 0 : call - 2);
      Edge.same("now", x.number(0, 0, 0), call);
    }
  }
}
