/** What the promises 29 to 37 tell, sentence by sentence: what a call does, what an argument is, what is answered. */
public final class TellsPagesTest {
  public static void main(String[] args) {
    pageOfTells();
    sizeOfTells();
    isConvertedTells();
    pagesTells();
    usedOfTells();
    forwardsInTells();
    isInMemoryTells();
    faultsTells();
    forwardedTells();
    convertedObjectsStayOrMove();
    abortBringsAllBack();
    Check.end("TellsPagesTest");
  }

  /** Kind 0: fields 0 'n', 1 'r', 2 'w'; kind 1: none. Transaction 0 has made so many of kind 0: four fill a page. */
  private static MarrowHeap with(int objects) {
    return Scene.plain("nrw", objects);
  }

  // ---- promises 29 to 31

  private static void pageOfTells() {
    Edge.says(29, "Returns the page of an object.");
    MarrowHeap x = with(10);
    for (int object = 0; object < 10; object++) {
      Edge.same("made", x.pageOf(object), object / 4);
    }
    Edge.says(29, "`object`: the object");
    Edge.same("3", x.pageOf(3), 0);
    Edge.same("4", x.pageOf(4), 1);
    Edge.says(29, "Returns the page.");
    x.setRoot(0, 0, 3);
    x.commit(0);
    x.addField(0, 'n');
    x.begin(0);
    x.lock(0, 3);
    Edge.same("not yet", x.pageOf(3), 0);
    x.number(0, 3, 0);
    Edge.same("moved", x.pageOf(3), 2);
    x.abort(0);
    Edge.same("moved back", x.pageOf(3), 0);
  }

  private static void sizeOfTells() {
    Edge.says(30, "Returns the size of an object.");
    for (int fields = 0; fields <= 6; fields++) {
      MarrowHeap x = new MarrowHeap();
      x.addKind(-1, false);
      for (int i = 0; i < fields; i++) {
        x.addField(0, "nrw".charAt(i % 3));
      }
      x.begin(0);
      x.make(0, 0);
      Edge.same("with " + fields + " fields", x.sizeOf(0), 1 + fields);
      Edge.same("so many units are used", x.usedOf(0), 1 + fields);
    }
    MarrowHeap x = with(2);
    x.make(0, 1);
    Edge.says(30, "`object`: the object");
    Edge.same("1", x.sizeOf(1), 4);
    Edge.same("2", x.sizeOf(2), 1);
    Edge.says(30, "Returns the size.");
    x.addField(0, 'n');
    Edge.same("not yet converted", x.sizeOf(1), 4);
    x.number(0, 1, 0);
    Edge.same("converted", x.sizeOf(1), 5);
    Edge.same("the other is not", x.sizeOf(0), 4);
  }

  private static void isConvertedTells() {
    Edge.says(31, "Returns whether an object has all fields of its kind.");
    MarrowHeap x = with(2);
    Edge.yes("as it was made", x.isConverted(0));
    x.addField(1, 'n');
    Edge.yes("a field of another kind", x.isConverted(0));
    x.addField(0, 'n');
    Edge.no("it lacks one", x.isConverted(0));
    x.follow(0, 0, 1);
    Edge.yes("it is met", x.isConverted(0));
    Edge.says(31, "`object`: the object");
    Edge.no("the other is not", x.isConverted(1));
    Edge.says(31, "Returns whether it has.");
    x.addField(0, 'r');
    x.addField(0, 'w');
    Edge.no("it lacks two", x.isConverted(0));
    x.number(0, 1, 0);
    Edge.yes("it lacked three", x.isConverted(1));
    x.commit(0);
    int below = x.addKind(0, false);
    x.begin(0);
    int object = x.make(0, below);
    Edge.same("all six", x.sizeOf(object), 7);
    Edge.yes("of a kind below", x.isConverted(object));
  }

  // ---- promises 32 to 35

  private static void pagesTells() {
    Edge.says(32, "Returns how many pages there are.");
    MarrowHeap x = with(0);
    Edge.same("none", x.pages(), 0);
    for (int object = 0; object < 13; object++) {
      x.make(0, 0);
      Edge.same("behind " + (object + 1), x.pages(), object / 4 + 1);
    }
    x.commit(0);
    x.collect(99);
    Edge.same("pages stay also when they are empty", x.pages(), 4);
    Edge.same("used", x.usedOf(3), 0);
  }

  private static void usedOfTells() {
    Edge.says(33, "Returns how many units of a page are used.");
    MarrowHeap x = with(0);
    int used = 0;
    for (int kind : new int[] {0, 1, 0, 1, 1}) {
      used += x.sizeOf(x.make(0, kind));
      Edge.same("the sizes of its objects", x.usedOf(0), used);
    }
    x.addField(0, 'n');
    Edge.same("none is converted", x.usedOf(0), used);
    x.number(0, 0, 0);
    Edge.same("one is", x.usedOf(0), used + 1);
    Edge.says(33, "`page`: the page");
    x.make(0, 0);
    Edge.same("of 1", x.usedOf(1), 5);
    Edge.same("of 0", x.usedOf(0), used + 1);
    Edge.says(33, "Returns the number of units.");
    x.commit(0);
    x.collect(3);
    Edge.same("two are freed", x.usedOf(0), used - 5);
    x.collect(99);
    Edge.same("all", x.usedOf(0) + x.usedOf(1), 0);
  }

  private static void forwardsInTells() {
    Edge.says(34, "Returns how many forwards a page has.");
    MarrowHeap x = new MarrowHeap();
    x.addKind(-1, false);
    x.addField(0, 'n');
    x.begin(0);
    for (int object = 0; object < 16; object++) {
      Edge.same("eight in a page", x.pageOf(x.make(0, 0)), object / 8);
    }
    for (int field = 1; field < 6; field++) {
      x.addField(0, 'n');
    }
    int[] order = {10, 1, 15, 0};
    int[][] due = {{0, 1}, {1, 1}, {1, 2}, {2, 2}};
    for (int i = 0; i < 4; i++) {
      x.number(0, order[i], 0);
      Edge.says(34, "`page`: the page");
      Edge.same("in 0", x.forwardsIn(0), due[i][0]);
      Edge.same("in 1", x.forwardsIn(1), due[i][1]);
    }
    Edge.says(34, "Returns the number of forwards.");
    Edge.same("six objects and two forwards", x.usedOf(1), 6 * 2 + 2);
    Edge.same("none where they came", x.forwardsIn(2) + x.forwardsIn(3), 0);
    x.commit(0);
    x.collect(99);
    Edge.same("gone", x.forwardsIn(0) + x.forwardsIn(1), 0);
  }

  private static void isInMemoryTells() {
    Edge.says(35, "Returns whether a page is in memory.");
    MarrowHeap x = Scene.chain(6, 0);
    for (int page = 0; page < 6; page++) {
      Edge.no("not yet: " + page, x.isInMemory(page));
    }
    x.number(0, 20, 0);
    Edge.yes("brought", x.isInMemory(5));
    Edge.says(35, "`page`: the page");
    Edge.no("no other", x.isInMemory(4));
    Edge.says(35, "Returns whether it is.");
    for (int page = 0; page < 4; page++) {
      x.number(0, 4 * page, 0);
    }
    Edge.no("it has left", x.isInMemory(5));
    x.crash(-1, 0);
    Edge.no("so have all", x.isInMemory(3));
  }

  // ---- promises 36 and 37

  private static void faultsTells() {
    Edge.says(36, "Returns the number of times.");
    MarrowHeap x = with(0);
    for (int object = 0; object < 12; object++) {
      x.make(0, 0);
      Edge.same("new pages count", x.faults(), object / 4 + 1);
    }
    x.abort(0);
    x.begin(0);
    x.make(0, 0);
    Edge.same("page 0 was gone and comes again", x.faults(), 4);
    x.crash(0, 99);
    x.begin(0);
    x.make(0, 0);
    Edge.same("behind a crash", x.faults(), 5);
  }

  private static void forwardedTells() {
    Edge.says(37, "Returns the number of times.");
    MarrowHeap x = with(4);
    x.link(0, 0, 1, 3);
    x.link(0, 1, 2, 3);
    x.addField(0, 'n');
    x.number(0, 3, 0);
    Edge.same("not yet", x.forwarded(), 0);
    x.follow(0, 0, 1);
    x.follow(0, 1, 2);
    x.follow(0, 0, 1);
    Edge.same("three times", x.forwarded(), 3);
    x.follow(0, 0, 2);
    Edge.same("not for none", x.forwarded(), 3);
    x.abort(0);
    Edge.same("that is not undone", x.forwarded(), 3);
  }

  // ---- terms

  private static void convertedObjectsStayOrMove() {
    Edge.says(Edge.TERMS, "An object that is converted stays in its page if this has room for its new size; otherwise, "
        + "it moves, in the same way as one that is made, into another page, and a forward of 1 unit stays in the page "
        + "that it leaves.");
    MarrowHeap x = with(3);
    x.addField(0, 'n');
    x.make(0, 1);
    x.number(0, 0, 3);
    Edge.same("14 of 16", x.usedOf(0), 14);
    x.number(0, 1, 3);
    Edge.same("15 of 16", x.usedOf(0), 15);
    x.number(0, 2, 3);
    Edge.same("16 of 16: all stay", x.usedOf(0), 16);
    Edge.same("no other page", x.pages(), 1);
    x.addField(0, 'n');
    x.number(0, 1, 4);
    Edge.same("one moves", x.pageOf(1), 1);
    Edge.same("all but a forward of it is gone", x.usedOf(0), 16 - 5 + 1);
    Edge.same("a forward", x.forwardsIn(0), 1);
    x.number(0, 2, 4);
    Edge.same("there is room now", x.pageOf(2), 0);
    Edge.same("another page has as many units as it needs", x.usedOf(1), 6);
  }

  private static void abortBringsAllBack() {
    Edge.says(Edge.TERMS, "When it is aborted, all pages that it changed are as they were when it changed them first, "
        + "those that it made are gone from the end on as far as they are empty, all roots that it changed are as "
        + "before, and its objects are there no more.");
    MarrowHeap x = with(8);
    x.link(0, 7, 1, 0);
    x.setRoot(0, 0, 7);
    x.commit(0);
    x.begin(1);
    x.lock(1, 7);
    x.setNumber(1, 0, 0, 3);
    x.commit(1);
    x.addField(0, 'n');
    x.begin(1);
    x.lock(1, 7);
    x.setNumber(1, 7, 3, 4);
    x.setNumber(1, 0, 0, 5);
    x.setNumber(1, 0, 0, 6);
    x.setRoot(1, 0, 0);
    x.setRoot(1, 0, -1);
    x.make(1, 0);
    Edge.same("pages", x.pages(), 3);
    x.abort(1);
    Edge.same("pages", x.pages(), 2);
    Edge.same("page of 7", x.pageOf(7), 1);
    Edge.same("size of 7", x.sizeOf(7), 4);
    Edge.same("forwards", x.forwardsIn(0) + x.forwardsIn(1), 0);
    Edge.same("used", x.usedOf(0) + x.usedOf(1), 32);
    Edge.same("root", x.root(0), 7);
    Edge.no("its object", x.exists(8));
    x.begin(2);
    x.lock(2, 7);
    Edge.same("the number that was committed", x.number(2, 0, 0), 3);
  }
}
