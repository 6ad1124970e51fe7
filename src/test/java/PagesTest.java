/** Promises 29 to 37: pages, conversions, forwards and memory. */
public final class PagesTest {
  private static final Class<IndexOutOfBoundsException> INDEX = IndexOutOfBoundsException.class;
  private static final Class<UnsupportedOperationException> OPERATION = UnsupportedOperationException.class;

  public static void main(String[] args) {
    tellsOfObjects();
    refusesObjects();
    tellsOfPages();
    refusesPages();
    convertsInItsPage();
    convertsByEachOfTheFour();
    movesWhenThereIsNoRoom();
    movesAsOneThatIsMade();
    cannotMove();
    conversionIsUndone();
    convertsAllFieldsAtOnce();
    memoryLosesTheOneUsedLongestAgo();
    memoryKeepsChangedPages();
    memoryFullForReading();
    memoryForMoving();
    memoryKeepsThePageThatIsLeft();
    faultsCount();
    forwardedCounts();
    forwardedBySelf();
    Check.end("PagesTest");
  }

  /** Kind 0 with fields of these types; transaction 0 is open. */
  private static MarrowHeap of(String types) {
    MarrowHeap x = new MarrowHeap();
    x.addKind(-1, false);
    for (char type : types.toCharArray()) {
      x.addField(0, type);
    }
    x.begin(0);
    return x;
  }

  private static void make(MarrowHeap x, int transaction, int count) {
    for (int i = 0; i < count; i++) {
      x.make(transaction, 0);
    }
  }

  /** Full pages of two objects each (size 7), in a chain from root 0: the later pages refer to the earlier. */
  private static MarrowHeap pairs(int pages) {
    MarrowHeap x = of("nrnnnn");
    for (int page = 0; page < pages; page++) {
      int first = 2 * page;
      make(x, 0, 2);
      x.link(0, first + 1, 1, first);
      if (page > 0) {
        x.lock(0, first - 1);
        x.link(0, first, 1, first - 1);
      }
      x.setRoot(0, 0, first + 1);
      x.commit(0);
      x.begin(0);
    }
    x.commit(0);
    return x;
  }

  private static String memory(MarrowHeap x) {
    StringBuilder text = new StringBuilder();
    for (int page = 0; page < x.pages(); page++) {
      text.append(x.isInMemory(page) ? '+' : '-');
    }
    return text.toString();
  }

  private static void tellsOfObjects() {
    MarrowHeap x = of("nr");
    make(x, 0, 6);
    Check.same("page of 4", x.pageOf(4), 0);
    Check.same("page of 5", x.pageOf(5), 1);
    Check.same("size", x.sizeOf(0), 3);
    Check.yes("converted", x.isConverted(0));
    x.addKind(0, false);
    x.addField(1, 'n');
    Check.yes("converted, a field of a kind below", x.isConverted(0));
    x.make(0, 1);
    Check.same("size below", x.sizeOf(6), 4);
    x.addField(0, 'n');
    Check.no("not converted", x.isConverted(0));
    Check.no("not converted below", x.isConverted(6));
    Check.same("size as before", x.sizeOf(0), 3);
    Check.same("size of one without fields", of("").make(0, 0), 0);
  }

  private static void refusesObjects() {
    MarrowHeap x = of("n");
    x.make(0, 0);
    for (int object : new int[] {-1, 1, 100, Integer.MAX_VALUE, Integer.MIN_VALUE}) {
      Check.fails("pageOf", INDEX, () -> x.pageOf(object));
      Check.fails("sizeOf", INDEX, () -> x.sizeOf(object));
      Check.fails("isConverted", INDEX, () -> x.isConverted(object));
    }
    x.abort(0);
    Check.fails("pageOf what is undone", INDEX, () -> x.pageOf(0));
    Check.fails("sizeOf what is undone", INDEX, () -> x.sizeOf(0));
    Check.fails("isConverted of what is undone", INDEX, () -> x.isConverted(0));
  }

  private static void tellsOfPages() {
    MarrowHeap x = of("nr");
    Check.same("pages", x.pages(), 0);
    make(x, 0, 6);
    Check.same("pages", x.pages(), 2);
    Check.same("used", x.usedOf(0), 15);
    Check.same("used of the next", x.usedOf(1), 3);
    Check.same("forwards", x.forwardsIn(0), 0);
    Check.yes("in memory", x.isInMemory(1));
    x.crash(0, 3);
    Check.no("not behind a crash", x.isInMemory(1));
    Check.same("pages", x.pages(), 2);
  }

  private static void refusesPages() {
    MarrowHeap x = of("n");
    for (int pages = 0; pages < 2; pages++) {
      for (int page : new int[] {-1, pages, 12, Integer.MAX_VALUE, Integer.MIN_VALUE}) {
        Check.fails("usedOf", INDEX, () -> x.usedOf(page));
        Check.fails("forwardsIn", INDEX, () -> x.forwardsIn(page));
        Check.fails("isInMemory", INDEX, () -> x.isInMemory(page));
      }
      x.make(0, 0);
    }
  }

  private static void convertsInItsPage() {
    MarrowHeap x = of("nr");
    make(x, 0, 5);
    x.setNumber(0, 0, 0, 4);
    x.link(0, 0, 1, 1);
    x.addField(0, 'n');
    Check.same("new field reads 0", x.number(0, 0, 2), 0);
    Check.same("size", x.sizeOf(0), 4);
    Check.yes("converted", x.isConverted(0));
    Check.same("exactly full", x.usedOf(0), 16);
    Check.same("stays", x.pageOf(0), 0);
    Check.same("keeps its number", x.number(0, 0, 0), 4);
    Check.same("keeps its reference", x.follow(0, 0, 1), 1);
    Check.same("faults", x.faults(), 1);
    x.commit(0);
    x.addField(0, 'w');
    x.begin(0);
    Check.same("a page is changed by it", x.commit(0), 0);
  }

  private static void convertsByEachOfTheFour() {
    for (int way = 0; way < 4; way++) {
      MarrowHeap x = of("nr");
      x.make(0, 0);
      x.make(0, 0);
      x.setRoot(0, 0, 0);
      x.link(0, 0, 1, 1);
      x.commit(0);
      x.addField(0, 'n');
      x.addField(0, 'w');
      x.begin(0);
      x.lock(0, 0);
      Check.no("locking does not convert", x.isConverted(0) || x.isConverted(1));
      switch (way) {
        case 0:
          x.setNumber(0, 0, 2, 3);
          break;
        case 1:
          Check.same("number", x.number(0, 0, 0), 0);
          break;
        case 2:
          Check.same("before", x.link(0, 0, 3, 1), -1);
          break;
        default:
          Check.same("follow", x.follow(0, 0, 3), -1);
          break;
      }
      Check.yes("converted", x.isConverted(0));
      Check.no("not the target", x.isConverted(1));
      Check.same("used", x.usedOf(0), 5 + 3);
      Check.same("the page is changed", x.commit(0), 1);
    }
  }

  private static void movesWhenThereIsNoRoom() {
    MarrowHeap x = of("nr");
    make(x, 0, 5);
    x.setNumber(0, 2, 0, 9);
    x.link(0, 2, 1, 4);
    x.link(0, 1, 1, 2);
    x.addField(0, 'n');
    x.addField(0, 'n');
    Check.same("new field", x.setNumber(0, 2, 3, 1), 0);
    Check.same("page", x.pageOf(2), 1);
    Check.same("pages", x.pages(), 2);
    Check.same("forward", x.forwardsIn(0), 1);
    Check.same("no forward", x.forwardsIn(1), 0);
    Check.same("left behind: one unit for three", x.usedOf(0), 13);
    Check.same("used", x.usedOf(1), 5);
    Check.same("keeps its number", x.number(0, 2, 0), 9);
    Check.same("keeps its reference", x.follow(0, 2, 1), 4);
    Check.same("no way by a forward yet", x.forwarded(), 0);
    Check.same("followed", x.follow(0, 1, 1), 2);
    Check.same("by a forward", x.forwarded(), 1);
    Check.same("the first converts and stays, as there is room now", x.pageOf(1), 0);
    Check.same("used", x.usedOf(0), 15);
    Check.same("pages changed", x.commit(0), 2);
    Check.yes("sound", x.isSound());
  }

  /** Pages 0 and 1 have room, page 2 has none; what is converted there moves into the lowest that it may change. */
  private static void movesAsOneThatIsMade() {
    MarrowHeap x = of("nr");
    make(x, 0, 15);
    for (int object = 10; object < 14; object++) {
      x.link(0, object, 1, object + 1);
    }
    x.link(0, 14, 1, 5);
    x.setRoot(0, 0, 10);
    x.link(0, 0, 1, 1);
    x.link(0, 1, 1, 2);
    x.setRoot(0, 1, 0);
    x.commit(0);
    x.collect(40);
    Check.same("freed", x.freed(), 6);
    Check.same("used of 0", x.usedOf(0), 9);
    Check.same("used of 1", x.usedOf(1), 3);
    x.addField(0, 'n');
    x.addField(0, 'n');
    x.begin(0);
    x.begin(1);
    x.lock(0, 10);
    x.lock(1, 0);
    x.number(1, 0, 0);
    Check.same("used of 0, changed by another", x.usedOf(0), 11);
    x.number(0, 10, 0);
    Check.same("not into a page that another has changed", x.pageOf(10), 1);
    x.number(0, 11, 0);
    Check.same("there is room now", x.pageOf(11), 2);
    x.commit(1);
    x.number(0, 12, 0);
    Check.same("into the lowest page, filled to the brim", x.pageOf(12), 0);
    Check.same("used of 0", x.usedOf(0), 16);
    Check.same("used of 1", x.usedOf(1), 8);
    Check.same("used of 2", x.usedOf(2), 1 + 5 + 1 + 3 + 3);
    Check.same("no page came", x.pages(), 3);
    Check.same("pages changed", x.commit(0), 3);
  }

  private static void cannotMove() {
    MarrowHeap x = of("nr");
    make(x, 0, 5);
    x.setRoot(0, 0, 0);
    x.setRoot(0, 1, 1);
    x.commit(0);
    x.addField(0, 'n');
    x.addField(0, 'n');
    x.begin(0);
    x.begin(1);
    x.lock(0, 0);
    x.lock(1, 1);
    x.number(0, 0, 2);
    Check.same("moved", x.pageOf(0), 1);
    Check.fails("its page cannot be changed", OPERATION, () -> x.number(1, 1, 0));
    Check.fails("nor for follow", OPERATION, () -> x.follow(1, 1, 1));
    Check.fails("nor for setNumber", OPERATION, () -> x.setNumber(1, 1, 0, 1));
    Check.fails("nor for link", OPERATION, () -> x.link(1, 1, 1, -1));
    Check.no("not converted", x.isConverted(1));
    x.commit(0);
    Check.same("it can now, and has room", x.number(1, 1, 0), 0);
    Check.same("page", x.pageOf(1), 0);
    x.begin(0);
    x.lock(0, 0);
    Check.same("converted, so read only", x.number(0, 0, 0), 0);
    Check.same("changed no page", x.commit(0), 0);
    pagesAreFull();
  }

  private static void pagesAreFull() {
    MarrowHeap x = of("nnrnn");
    x.addKind(-1, false);
    for (int page = 0; page < 12; page++) {
      make(x, 0, 2);
      for (int i = 0; i < 4; i++) {
        x.make(0, 1);
      }
      Check.same("full", x.usedOf(page), 16);
      if (page > 0) {
        x.lock(0, page * 6 - 6);
        x.link(0, page * 6, 2, page * 6 - 6);
      }
      x.setRoot(0, 0, page * 6);
      x.commit(0);
      x.begin(0);
    }
    Check.same("pages", x.pages(), 12);
    x.lock(0, 66);
    Check.same("read", x.number(0, 66, 0), 0);
    x.addField(0, 'n');
    Check.fails("pages are full for number", OPERATION, () -> x.number(0, 66, 0));
    Check.fails("pages are full for follow", OPERATION, () -> x.follow(0, 66, 2));
    Check.fails("pages are full for setNumber", OPERATION, () -> x.setNumber(0, 66, 0, 1));
    Check.fails("pages are full for link", OPERATION, () -> x.link(0, 66, 2, -1));
    Check.same("nothing is changed", x.commit(0), 0);
    Check.same("no forward", x.forwardsIn(11), 0);
  }

  private static void conversionIsUndone() {
    MarrowHeap x = of("nr");
    make(x, 0, 5);
    x.setRoot(0, 0, 0);
    x.link(0, 0, 1, 1);
    x.setNumber(0, 1, 0, 8);
    x.commit(0);
    x.addField(0, 'n');
    x.addField(0, 'r');
    x.begin(0);
    x.lock(0, 0);
    x.setNumber(0, 0, 2, 3);
    x.link(0, 1, 3, 0);
    Check.same("moved", x.pageOf(0), 1);
    Check.same("two pages", x.abort(0), 2);
    Check.same("back", x.pageOf(0), 0);
    Check.same("size", x.sizeOf(0), 3);
    Check.same("size of the other", x.sizeOf(1), 3);
    Check.same("no forward", x.forwardsIn(0), 0);
    Check.same("used", x.usedOf(0), 15);
    Check.same("the new page is gone", x.pages(), 1);
    x.begin(0);
    x.lock(0, 0);
    Check.same("number", x.number(0, 1, 0), 8);
    Check.same("the new number is 0 anew", x.number(0, 0, 2), 0);
    Check.same("the new reference is none anew", x.follow(0, 1, 3), -1);
    Check.yes("sound", x.isSound());
  }

  private static void convertsAllFieldsAtOnce() {
    MarrowHeap x = of("n");
    x.addKind(0, false);
    x.addField(1, 'r');
    x.make(0, 1);
    x.addField(0, 'w');
    x.addField(1, 'n');
    x.addField(0, 'r');
    Check.same("size", x.sizeOf(0), 3);
    Check.same("number", x.number(0, 0, 3), 0);
    Check.same("size behind it", x.sizeOf(0), 6);
    for (int field : new int[] {1, 2, 4}) {
      Check.same("none", x.follow(0, 0, field), -1);
      Check.same("link", x.link(0, 0, field, 0), -1);
      Check.same("itself", x.follow(0, 0, field), 0);
    }
  }

  private static void memoryLosesTheOneUsedLongestAgo() {
    MarrowHeap x = pairs(4);
    Check.sameText("memory", memory(x), "++++");
    x.begin(0);
    x.lock(0, 7);
    x.number(0, 0, 0);
    x.number(0, 4, 0);
    x.make(0, 0);
    Check.sameText("page 1 left", memory(x), "+-+++");
    x.number(0, 2, 0);
    Check.sameText("page 3 left", memory(x), "+++-+");
    x.follow(0, 6, 1);
    Check.sameText("page 0 left", memory(x), "-++++");
    Check.same("faults", x.faults(), 7);
    x.setRoot(0, 3, 0);
    Check.sameText("locking and roots use no page", memory(x), "-++++");
  }

  private static void memoryKeepsChangedPages() {
    MarrowHeap x = pairs(4);
    x.begin(0);
    x.lock(0, 7);
    x.setNumber(0, 0, 0, 1);
    x.number(0, 2, 0);
    x.number(0, 4, 0);
    x.number(0, 6, 0);
    x.begin(1);
    x.make(1, 0);
    Check.sameText("page 1 left, page 0 is changed", memory(x), "+-+++");
    x.make(1, 0);
    x.make(1, 0);
    Check.sameText("page 2 left", memory(x), "+--+++");
    x.number(0, 2, 0);
    Check.sameText("page 3 left", memory(x), "++--++");
    x.commit(0);
    x.begin(0);
    x.lock(0, 7);
    x.number(0, 4, 0);
    Check.sameText("page 0 may leave now", memory(x), "-++-++");
    x.abort(1);
    Check.sameText("pages that are gone leave", memory(x), "-++-");
    x.number(0, 0, 0);
    x.number(0, 6, 0);
    Check.sameText("there is room again", memory(x), "++++");
  }

  private static void memoryFullForReading() {
    MarrowHeap x = pairs(5);
    x.crash(-1, 0);
    x.begin(0);
    x.lock(0, 9);
    for (int page = 0; page < 4; page++) {
      x.setNumber(0, 2 * page, 0, page);
    }
    Check.sameText("memory", memory(x), "++++-");
    Check.fails("full for number", OPERATION, () -> x.number(0, 8, 0));
    Check.fails("full for follow", OPERATION, () -> x.follow(0, 8, 1));
    Check.fails("full for setNumber", OPERATION, () -> x.setNumber(0, 8, 0, 5));
    Check.fails("full for link", OPERATION, () -> x.link(0, 8, 1, -1));
    Check.fails("full for make", OPERATION, () -> x.make(0, 0));
    Check.same("in memory", x.number(0, 6, 0), 3);
    Check.same("pages", x.pages(), 5);
    int faults = x.faults();
    Check.same("four pages", x.commit(0), 4);
    x.begin(0);
    x.lock(0, 9);
    Check.same("not full any more", x.number(0, 8, 0), 0);
    Check.same("faults", x.faults(), faults + 1);
    Check.sameText("page 0 left", memory(x), "-++++");
  }

  private static void memoryForMoving() {
    MarrowHeap x = of("nr");
    make(x, 0, 5);
    x.link(0, 0, 1, 1);
    x.setRoot(0, 0, 0);
    x.commit(0);
    x.addField(0, 'n');
    x.addField(0, 'n');
    x.crash(-1, 0);
    int faults = x.faults();
    x.begin(0);
    x.lock(0, 0);
    x.number(0, 0, 0);
    Check.same("its page and the one into which it comes", x.faults(), faults + 2);
    Check.sameText("memory", memory(x), "++");
    x.number(0, 1, 0);
    Check.same("in its page", x.pageOf(1), 0);
    Check.same("no more", x.faults(), faults + 2);
  }

  /** A page that is left counts as changed when the next one comes: with three others, memory is full. */
  private static void memoryKeepsThePageThatIsLeft() {
    MarrowHeap x = of("nrn");
    make(x, 0, 4);
    x.link(0, 0, 1, 1);
    x.setRoot(0, 0, 0);
    x.commit(0);
    x.begin(1);
    make(x, 1, 9);
    x.addField(0, 'n');
    x.begin(0);
    x.lock(0, 0);
    Check.same("pages", x.pages(), 4);
    Check.sameText("memory", memory(x), "++++");
    Check.fails("all others are changed", OPERATION, () -> x.number(0, 0, 0));
    Check.same("nothing has moved", x.pageOf(0), 0);
    Check.same("no page came", x.pages(), 4);
    x.commit(1);
    Check.same("they can leave now", x.number(0, 0, 0), 0);
    Check.same("page", x.pageOf(0), 3);
  }

  private static void faultsCount() {
    MarrowHeap x = of("n");
    Check.same("none", x.faults(), 0);
    make(x, 0, 8);
    Check.same("one page", x.faults(), 1);
    make(x, 0, 1);
    Check.same("two pages", x.faults(), 2);
    x.setRoot(0, 0, 8);
    x.crash(0, 3);
    Check.same("a crash brings none", x.faults(), 2);
    x.begin(0);
    x.lock(0, 8);
    x.number(0, 8, 0);
    x.number(0, 8, 0);
    Check.same("brought once more", x.faults(), 3);
    x.abort(0);
    Check.same("not undone", x.faults(), 3);
  }

  private static void forwardedCounts() {
    MarrowHeap x = of("rw");
    make(x, 0, 5);
    x.link(0, 0, 0, 4);
    x.link(0, 0, 1, 4);
    x.setRoot(0, 0, 0);
    x.commit(0);
    x.addField(0, 'n');
    x.addField(0, 'n');
    x.begin(0);
    x.lock(0, 4);
    x.number(0, 4, 2);
    Check.same("moved", x.pageOf(4), 1);
    x.lock(0, 0);
    Check.same("followed", x.follow(0, 0, 0), 4);
    Check.same("forwarded", x.forwarded(), 1);
    Check.same("weak, followed", x.follow(0, 0, 1), 4);
    Check.same("forwarded", x.forwarded(), 2);
    Check.same("followed again", x.follow(0, 0, 0), 4);
    Check.same("forwarded each time", x.forwarded(), 3);
    x.link(0, 0, 0, 4);
    Check.same("set anew", x.follow(0, 0, 0), 4);
    Check.same("no forward", x.forwarded(), 3);
    x.abort(0);
    Check.same("not undone", x.forwarded(), 3);
    x.begin(0);
    x.lock(0, 0);
    x.follow(0, 0, 0);
    Check.same("back in its page", x.forwarded(), 3);
    Check.same("none", x.link(0, 0, 1, -1), 4);
    x.follow(0, 0, 1);
    Check.same("none is not forwarded", x.forwarded(), 3);
  }

  /** A reference to itself knows the page into which its object has just moved for being linked. */
  private static void forwardedBySelf() {
    MarrowHeap x = of("rw");
    make(x, 0, 5);
    x.addField(0, 'n');
    x.addField(0, 'n');
    x.link(0, 0, 0, 0);
    Check.same("moved", x.pageOf(0), 1);
    Check.same("itself", x.follow(0, 0, 0), 0);
    Check.same("no forward", x.forwarded(), 0);
  }
}
