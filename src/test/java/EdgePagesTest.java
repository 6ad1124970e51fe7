import java.util.function.ObjIntConsumer;

/** The edges of the promises 29 to 37, and of what the terms say of pages, references and memory. */
public final class EdgePagesTest {
  private static final String NO_OBJECT = "Throws `IndexOutOfBoundsException` if there is no such object";
  private static final String NO_PAGE = "Throws `IndexOutOfBoundsException` if there is no such page";

  public static void main(String[] args) {
    pageOfRefusesObjectsThatAreNotThere();
    sizeOfRefusesObjectsThatAreNotThere();
    isConvertedRefusesObjectsThatAreNotThere();
    pagesGoFromNoneToTwelve();
    usedOfRefusesPagesThatAreNotThere();
    forwardsInRefusesPagesThatAreNotThere();
    isInMemoryRefusesPagesThatAreNotThere();
    faultsCountWhatIsBrought();
    forwardedGoesFromNone();
    forwardedCountsWays();
    twelvePagesOfSixteenUnits();
    madeObjectsComeIntoTheLowestPage();
    madeObjectsComeIntoANewPage();
    convertedObjectsStayIfThereIsRoom();
    convertedObjectsThatStayNeedNoOtherPage();
    movedObjectsLeaveAForward();
    movedObjectsGoWhereMadeOnesGo();
    pagesCanBeChangedByOne();
    whatChangesPages();
    weakReferencesToNothing();
    fourPagesAreInMemory();
    theOneUsedLongestAgoLeaves();
    changedPagesDoNotLeave();
    memoryIsFull();
    movingBringsTwoPages();
    usingAPage();
    Check.end("EdgePagesTest");
  }

  private static void refusesObjects(ObjIntConsumer<MarrowHeap> it) {
    Edge.refuses(Scene.EMPTY, "object 0 of an empty database", Edge.INDEX, x -> it.accept(x, 0));
    for (int object : new int[] {5, 7, 8, 99, 100, -1, -2, Edge.LEAST, Edge.GREATEST}) {
      Edge.refuses(Scene.SMALL, "object " + object, Edge.INDEX, x -> it.accept(x, object));
    }
    for (int object : new int[] {100, -1, Edge.LEAST, Edge.GREATEST}) {
      Edge.refuses(Scene.FULL, "object " + object + " of a full database", Edge.INDEX, x -> it.accept(x, object));
    }
  }

  private static void refusesPages(ObjIntConsumer<MarrowHeap> it) {
    for (int page : new int[] {0, 1, 11, 12, -1, Edge.LEAST, Edge.GREATEST}) {
      Edge.refuses(Scene.EMPTY, "page " + page + " of none", Edge.INDEX, x -> it.accept(x, page));
    }
    for (int page : new int[] {2, 3, 11, 12, -1, -2, Edge.LEAST, Edge.GREATEST}) {
      Edge.refuses(Scene.SMALL, "page " + page + " of two", Edge.INDEX, x -> it.accept(x, page));
    }
    for (int page : new int[] {12, 13, -1, Edge.LEAST, Edge.GREATEST}) {
      Edge.refuses(Scene.FULL, "page " + page + " of twelve", Edge.INDEX, x -> it.accept(x, page));
    }
    Scene gone = Scene.of(() -> {
      MarrowHeap x = Scene.FULL.fresh();
      x.abort(2);
      return x;
    });
    Edge.refuses(gone, "a page that is gone", Edge.INDEX, x -> it.accept(x, 10));
    Edge.refuses(gone, "the other one", Edge.INDEX, x -> it.accept(x, 11));
  }

  /** Kind 0 has fields of these types, kind 1 none; transaction 0 is open. */
  private static MarrowHeap of(String types) {
    return Scene.plain(types, 0);
  }

  private static void make(MarrowHeap x, int transaction, int kind, int count) {
    for (int i = 0; i < count; i++) {
      x.make(transaction, kind);
    }
  }

  private static String memory(MarrowHeap x) {
    StringBuilder text = new StringBuilder();
    for (int page = 0; page < x.pages(); page++) {
      text.append(x.isInMemory(page) ? '+' : '-');
    }
    return text.toString();
  }

  // ---- promises 29 to 37

  private static void pageOfRefusesObjectsThatAreNotThere() {
    Edge.says(29, NO_OBJECT);
    refusesObjects((x, object) -> x.pageOf(object));
    Edge.answers(Scene.SMALL, "the first", 0, x -> x.pageOf(0));
    Edge.answers(Scene.SMALL, "the last", 1, x -> x.pageOf(6));
    Edge.answers(Scene.FULL, "the last of a full database", 11, x -> x.pageOf(99));
  }

  private static void sizeOfRefusesObjectsThatAreNotThere() {
    Edge.says(30, NO_OBJECT);
    refusesObjects((x, object) -> x.sizeOf(object));
    Edge.answers(Scene.SMALL, "the last", 4, x -> x.sizeOf(6));
    Edge.answers(Scene.FULL, "the least", 1, x -> x.sizeOf(99));
    Edge.answers(Scene.FULL, "the greatest", 7, x -> x.sizeOf(0));
  }

  private static void isConvertedRefusesObjectsThatAreNotThere() {
    Edge.says(31, NO_OBJECT);
    refusesObjects((x, object) -> x.isConverted(object));
    Edge.answers(Scene.SMALL, "the last", 1, x -> x.isConverted(6) ? 1 : 0);
    Edge.answers(Scene.SMALL, "a field more", 0, x -> x.isConverted(6 + 0 * x.addField(0, 'n')) ? 1 : 0);
    Edge.answers(Scene.FULL, "the last of a full database", 1, x -> x.isConverted(99) ? 1 : 0);
  }

  private static void pagesGoFromNoneToTwelve() {
    Edge.says(32, "Returns the number of pages.");
    Edge.answers(Scene.EMPTY, "none", 0, x -> x.pages());
    Edge.answers(Scene.SMALL, "two", 2, x -> x.pages());
    Edge.answers(Scene.FULL, "twelve", 12, x -> x.pages());
  }

  private static void usedOfRefusesPagesThatAreNotThere() {
    Edge.says(33, NO_PAGE);
    refusesPages((x, page) -> x.usedOf(page));
    Edge.answers(Scene.SMALL, "the first", 13, x -> x.usedOf(0));
    Edge.answers(Scene.SMALL, "the last", 9, x -> x.usedOf(1));
    for (int page = 0; page < 12; page++) {
      int it = page;
      Edge.answers(Scene.FULL, "full: " + it, 16, x -> x.usedOf(it));
    }
  }

  private static void forwardsInRefusesPagesThatAreNotThere() {
    Edge.says(34, NO_PAGE);
    refusesPages((x, page) -> x.forwardsIn(page));
    Edge.answers(Scene.SMALL, "none", 0, x -> x.forwardsIn(1));
    Edge.answers(Scene.FULL, "none in the last", 0, x -> x.forwardsIn(11));
    MarrowHeap x = of("n");
    make(x, 0, 0, 8);
    for (int field = 1; field < 6; field++) {
      x.addField(0, 'n');
    }
    x.number(0, 0, 0);
    Edge.same("one", x.forwardsIn(0), 1);
    x.number(0, 1, 0);
    Edge.same("two", x.forwardsIn(0), 2);
    Edge.same("none where they are", x.forwardsIn(1), 0);
    Edge.same("used", x.usedOf(0), 6 * 2 + 2);
  }

  private static void isInMemoryRefusesPagesThatAreNotThere() {
    Edge.says(35, NO_PAGE);
    refusesPages((x, page) -> x.isInMemory(page));
    Edge.answers(Scene.SMALL, "the last", 1, x -> x.isInMemory(1) ? 1 : 0);
    Edge.answers(Scene.FULL, "the last of a full database", 1, x -> x.isInMemory(11) ? 1 : 0);
    Edge.answers(Scene.FULL, "the last that has left", 0, x -> x.isInMemory(7) ? 1 : 0);
    Edge.answers(Scene.FULL, "the first that has not", 1, x -> x.isInMemory(8) ? 1 : 0);
  }

  private static void faultsCountWhatIsBrought() {
    Edge.says(36, "Returns how often a page was brought into memory.");
    Edge.answers(Scene.EMPTY, "none", 0, x -> x.faults());
    MarrowHeap x = Scene.chain(5, 0);
    int faults = x.faults();
    for (int round = 0; round < 3; round++) {
      for (int page = 0; page < 5; page++) {
        x.number(0, 4 * page, 0);
        x.number(0, 4 * page, 0);
        faults++;
        Edge.same("one more each time", x.faults(), faults);
      }
    }
  }

  private static void forwardedGoesFromNone() {
    Edge.says(37, "Returns how often a reference was followed by way of a forward.");
    Edge.answers(Scene.EMPTY, "none", 0, x -> x.forwarded());
    Edge.answers(Scene.FULL, "none was moved", 0, x -> x.forwarded());
    MarrowHeap x = Scene.chain(2, 0);
    x.addField(0, 'n');
    x.number(0, 3, 3);
    for (int times = 1; times <= 3; times++) {
      Edge.same("followed", x.follow(0, 4, 1), 3);
      Edge.same("each time", x.forwarded(), times);
    }
  }

  private static void forwardedCountsWays() {
    Edge.says(Edge.TERMS, "A reference knows the page in which its object was when it was set. If this is not its page "
        + "now when the reference is followed by follow(), it is followed by way of a forward.");
    MarrowHeap x = of("rw");
    make(x, 0, 0, 5);
    x.link(0, 0, 0, 4);
    x.link(0, 0, 1, 4);
    x.addField(0, 'n');
    x.addField(0, 'n');
    x.number(0, 4, 2);
    Edge.same("moved", x.pageOf(4), 1);
    Edge.same("none was followed", x.forwarded(), 0);
    Edge.same("followed", x.follow(0, 0, 0), 4);
    Edge.same("by way of a forward", x.forwarded(), 1);
    Edge.same("weak", x.follow(0, 0, 1), 4);
    Edge.same("this too", x.forwarded(), 2);
    x.link(0, 0, 0, 4);
    Edge.same("set anew", x.follow(0, 0, 0), 4);
    Edge.same("by none", x.forwarded(), 2);
    Edge.fails("a refused call", Edge.ELEMENT, () -> x.follow(0, 0, 2));
    x.link(0, 0, 1, -1);
    Edge.same("none", x.follow(0, 0, 1), -1);
    Edge.same("nor for this", x.forwarded(), 2);
  }

  // ---- terms: pages

  private static void twelvePagesOfSixteenUnits() {
    Edge.says(Edge.TERMS, "At most 12 pages are numbered from 0; each has 16 units.");
    MarrowHeap x = of("");
    for (int page = 0; page < 6; page++) {
      for (int unit = 1; unit <= 16; unit++) {
        int object = x.make(0, 1);
        Edge.same("page", x.pageOf(object), page);
        Edge.same("used", x.usedOf(page), unit);
      }
      x.commit(0);
      x.begin(0);
    }
    MarrowHeap y = of("nnnnnn");
    for (int page = 0; page < 12; page++) {
      y.make(0, 0);
      Edge.same("page", y.pageOf(y.make(0, 0)), page);
      Edge.same("pages", y.pages(), page + 1);
      y.commit(0);
      y.begin(0);
    }
    Edge.refusesHere(y, "a thirteenth page", Edge.OPERATION, () -> y.make(0, 0));
    Edge.same("room for two of size 1", y.pageOf(y.make(0, 1)), 0);
    Edge.same("the second", y.pageOf(y.make(0, 1)), 0);
    Edge.same("the third", y.pageOf(y.make(0, 1)), 1);
  }

  private static void madeObjectsComeIntoTheLowestPage() {
    Edge.says(Edge.TERMS, "An object that is made comes into the lowest-numbered page that has room for it and can be "
        + "changed by its transaction, or else into a new page, if there are fewer than 12.",
        "the lowest-numbered page that has room for it and can be changed by its transaction");
    MarrowHeap x = of("nnn");
    make(x, 0, 0, 3);
    make(x, 0, 1, 3);
    Edge.same("one unit is free", x.usedOf(0), 15);
    Edge.same("four do not find room", x.pageOf(x.make(0, 0)), 1);
    Edge.same("one does", x.pageOf(x.make(0, 1)), 0);
    Edge.same("then no more", x.pageOf(x.make(0, 1)), 1);
    x.commit(0);
    x.begin(0);
    x.begin(1);
    x.make(0, 1);
    Edge.same("0 has changed page 1", x.pageOf(x.make(1, 1)), 2);
    Edge.same("its own page", x.pageOf(x.make(0, 1)), 1);
    x.commit(0);
    Edge.same("0 has ended", x.pageOf(x.make(1, 1)), 1);
    x.begin(2);
    Edge.same("1 has changed both", x.pageOf(x.make(2, 1)), 3);
    x.abort(1);
    Edge.same("1 has ended", x.pageOf(x.make(2, 1)), 1);
  }

  private static void madeObjectsComeIntoANewPage() {
    Edge.says(Edge.TERMS, "An object that is made comes into the lowest-numbered page that has room for it and can be "
        + "changed by its transaction, or else into a new page, if there are fewer than 12.",
        "or else into a new page, if there are fewer than 12");
    for (int pages = 0; pages <= 12; pages++) {
      int count = pages;
      Scene scene = Scene.of(() -> {
        MarrowHeap x = Scene.chain(count);
        x.begin(1);
        return x;
      });
      if (pages < 12) {
        MarrowHeap x = Edge.answers(scene, "of " + pages, 4 * pages, y -> y.make(1, 1));
        Edge.same("page", x.pageOf(4 * pages), pages);
        Edge.same("pages", x.pages(), pages + 1);
      } else {
        Edge.refuses(scene, "of 12", Edge.OPERATION, x -> x.make(1, 1));
      }
    }
  }

  private static void convertedObjectsStayIfThereIsRoom() {
    Edge.says(Edge.TERMS, "An object that is converted stays in its page if this has room for its new size");
    for (int others = 8; others <= 14; others++) {
      for (int added = 1; added <= 4; added++) {
        MarrowHeap x = of("n");
        x.make(0, 0);
        make(x, 0, 1, others);
        for (int i = 0; i < added; i++) {
          x.addField(0, 'n');
        }
        String what = others + " other units, from 2 to " + (2 + added);
        boolean stays = others + 2 + added <= 16;
        x.number(0, 0, 0);
        Edge.same(what + ": page", x.pageOf(0), stays ? 0 : 1);
        Edge.same(what + ": used", x.usedOf(0), stays ? others + 2 + added : others + 1);
        Edge.same(what + ": forwards", x.forwardsIn(0), stays ? 0 : 1);
        Edge.same(what + ": pages", x.pages(), stays ? 1 : 2);
      }
    }
  }

  /** No page has room for the whole of an object, but each has one unit, by which one of its objects can grow. */
  private static void convertedObjectsThatStayNeedNoOtherPage() {
    Edge.says(Edge.TERMS, "An object that is converted stays in its page if this has room for its new size");
    Scene twelve = Scene.of(() -> {
      MarrowHeap x = almostFull(12);
      x.addField(0, 'n');
      return x;
    });
    for (int page = 0; page < 12; page++) {
      int object = 3 * page;
      MarrowHeap x = Edge.answers(twelve, "12 pages, in page " + page, 0, y -> y.number(0, object, 4));
      Edge.same("it stays", x.pageOf(object), object / 3);
      Edge.same("the page is full", x.usedOf(object / 3), 16);
      Edge.refusesHere(x, "the next has no room", Edge.OPERATION, () -> x.number(0, object + 1, 4));
    }
    Scene five = Scene.of(() -> {
      MarrowHeap x = almostFull(5);
      for (int page = 0; page < 3; page++) {
        x.setNumber(0, 3 * page, 0, 1);
      }
      x.addField(0, 'n');
      return x;
    });
    MarrowHeap x = Edge.answers(five, "3 other pages are changed", 0, y -> y.number(0, 9, 4));
    Edge.sameText("its page is the fourth in memory", memory(x), "++++-");
    Edge.refusesHere(x, "a fifth", Edge.OPERATION, () -> x.number(0, 12, 4));
    Edge.refusesHere(x, "nor one that must move", Edge.OPERATION, () -> x.number(0, 10, 4));
  }

  /** Pages of three objects of size 5 with one free unit; all objects are a chain, which transaction 0 holds. */
  private static MarrowHeap almostFull(int pages) {
    MarrowHeap x = of("nrwn");
    for (int page = 0; page < pages; page++) {
      make(x, 0, 0, 3);
      for (int object = 3 * page; object < 3 * page + 3; object++) {
        if (object > 0) {
          x.lock(0, object - 1);
          x.link(0, object, 1, object - 1);
        }
      }
      x.setRoot(0, 0, 3 * page + 2);
      x.commit(0);
      x.begin(0);
      Edge.same("used", x.usedOf(page), 15);
    }
    x.crash(-1, 0);
    x.begin(0);
    x.lock(0, 3 * pages - 1);
    return x;
  }

  private static void movedObjectsLeaveAForward() {
    Edge.says(Edge.TERMS, "otherwise, it moves, in the same way as one that is made, into another page, and a forward "
        + "of 1 unit stays in the page that it leaves.", "and a forward of 1 unit stays in the page that it leaves");
    MarrowHeap x = of("n");
    make(x, 0, 0, 8);
    for (int i = 0; i < 5; i++) {
      x.addField(0, 'n');
    }
    for (int moved = 1; moved <= 2; moved++) {
      x.number(0, 8 - moved, 0);
      Edge.same("moved", x.pageOf(8 - moved), 1);
      Edge.same("forwards where it was", x.forwardsIn(0), moved);
      Edge.same("used there", x.usedOf(0), 16 - moved);
      Edge.same("used where it is", x.usedOf(1), 7 * moved);
      Edge.same("none where it is", x.forwardsIn(1), 0);
    }
    x.number(0, 5, 0);
    Edge.same("the next page", x.pageOf(5), 2);
    Edge.same("forwards", x.forwardsIn(0), 3);
    Edge.yes("sound", x.isSound());
    MarrowHeap twice = Scene.chain(2, 0);
    twice.addField(0, 'n');
    twice.number(0, 0, 3);
    Edge.same("moved", twice.pageOf(0), 2);
    make(twice, 0, 1, 14);
    twice.addField(0, 'n');
    twice.number(0, 0, 4);
    Edge.same("moved again", twice.pageOf(0), 3);
    Edge.same("a forward in the first", twice.forwardsIn(0), 1);
    Edge.same("and in the second", twice.forwardsIn(2), 1);
    Edge.same("used there", twice.usedOf(2), 16 - 5 + 1);
  }

  private static void movedObjectsGoWhereMadeOnesGo() {
    Edge.says(Edge.TERMS, "otherwise, it moves, in the same way as one that is made, into another page, and a forward "
        + "of 1 unit stays in the page that it leaves.", "in the same way as one that is made, into another page");
    for (int room = 3; room <= 5; room++) {
      MarrowHeap x = of("nrw");
      make(x, 0, 0, 4);
      make(x, 0, 1, 16 - room);
      make(x, 0, 0, room < 4 ? 1 : 0);
      x.addField(0, 'n');
      x.number(0, 0, 3);
      Edge.same(room + " units are free in page 1", x.pageOf(0), room == 5 ? 1 : 2);
    }
    MarrowHeap y = Scene.chain(2, 0);
    y.begin(1);
    make(y, 1, 1, 1);
    y.addField(0, 'n');
    y.number(0, 7, 3);
    Edge.same("page 2 is changed by another, so a new one", y.pageOf(7), 3);
    y.commit(1);
    y.number(0, 6, 3);
    Edge.same("there is room now", y.pageOf(6), 1);
    y.number(0, 3, 3);
    Edge.same("page 2 can be changed now", y.pageOf(3), 2);
    for (int pages = 11; pages <= 12; pages++) {
      MarrowHeap z = Scene.chain(pages, 0);
      z.addField(0, 'n');
      if (pages == 11) {
        z.number(0, 0, 3);
        Edge.same("the twelfth page", z.pageOf(0), 11);
      } else {
        Edge.refusesHere(z, "no thirteenth", Edge.OPERATION, () -> z.number(0, 0, 3));
      }
    }
  }

  private static void pagesCanBeChangedByOne() {
    Edge.says(Edge.TERMS, "A page can be changed by a transaction if no other transaction that is open now has changed "
        + "it.");
    Scene changed = Scene.of(() -> {
      MarrowHeap x = Scene.chain(1);
      x.begin(0);
      x.begin(1);
      x.lock(0, 3);
      x.link(0, 3, 1, -1);
      x.setRoot(0, 1, 2);
      x.commit(0);
      x.begin(0);
      x.lock(0, 3);
      x.lock(1, 2);
      x.setNumber(0, 3, 0, 5);
      return x;
    });
    Edge.refuses(changed, "another has changed it", Edge.OPERATION, x -> x.setNumber(1, 2, 0, 6));
    Edge.answers(changed, "this one has changed it", 5, x -> x.setNumber(0, 3, 0, 6));
    for (int way = 0; way < 2; way++) {
      int it = way;
      Edge.answers(Scene.of(() -> {
        MarrowHeap x = changed.fresh();
        if (it == 0) {
          x.commit(0);
        } else {
          x.abort(0);
        }
        return x;
      }), "the other is open no more", 0, x -> x.setNumber(1, 2, 0, 6));
    }
  }

  private static void whatChangesPages() {
    Edge.says(Edge.TERMS, "Making, converting, moving and setting fields change the pages that are concerned.");
    MarrowHeap made = Scene.chain(1, 0);
    made.make(0, 1);
    Edge.same("making: the new page", made.commit(0), 1);
    MarrowHeap set = Scene.chain(2, 0);
    set.setNumber(0, 0, 0, 0);
    Edge.same("setting what it was: a page", set.commit(0), 1);
    MarrowHeap linked = Scene.chain(2, 0);
    linked.link(0, 0, 2, 7);
    Edge.same("a reference: the page of the object, not of the target", linked.commit(0), 1);
    MarrowHeap moved = Scene.chain(2, 0);
    moved.addField(0, 'n');
    moved.number(0, 0, 3);
    Edge.same("moving: both pages", moved.commit(0), 2);
    moved.begin(0);
    moved.lock(0, 7);
    moved.number(0, 1, 3);
    Edge.same("converting: its page", moved.commit(0), 1);
    MarrowHeap read = Scene.chain(2, 0);
    read.number(0, 0, 0);
    read.follow(0, 7, 1);
    read.setRoot(0, 0, 0);
    Edge.same("reading, locking and roots: none", read.commit(0), 0);
  }

  private static void weakReferencesToNothing() {
    Edge.says(Edge.TERMS, "A weak reference to an object that is not there any more refers to none.");
    MarrowHeap x = Scene.chain(1, 0);
    x.make(0, 1);
    Edge.same("in another page", x.pageOf(4), 1);
    x.link(0, 3, 2, 4);
    x.commit(0);
    x.begin(0);
    x.lock(0, 3);
    Edge.same("it is there", x.follow(0, 3, 2), 4);
    x.link(0, 3, 2, -1);
    x.collect(20);
    Edge.no("freed", x.exists(4));
    x.abort(0);
    x.begin(0);
    x.lock(0, 3);
    Edge.same("what is undone refers to none", x.follow(0, 3, 2), -1);
    Edge.same("it was none before a link", x.link(0, 3, 2, 0), -1);
    Edge.same("another", x.follow(0, 3, 2), 0);
  }

  // ---- terms: memory

  private static void fourPagesAreInMemory() {
    Edge.says(Edge.TERMS, "At most 4 pages are in memory.");
    for (int pages = 1; pages <= 12; pages++) {
      MarrowHeap x = Scene.chain(pages, 0);
      for (int page = 0; page < pages; page++) {
        x.number(0, 4 * page, 0);
        int inside = 0;
        for (int other = 0; other < pages; other++) {
          inside += x.isInMemory(other) ? 1 : 0;
        }
        Edge.same("of " + pages + ", behind " + page, inside, Math.min(4, page + 1));
        Edge.yes("the last among them", x.isInMemory(page));
      }
    }
  }

  private static void theOneUsedLongestAgoLeaves() {
    Edge.says(Edge.TERMS, "If there are 4 pages in memory, the one that was used longest ago of those that no open "
        + "transaction has changed leaves it; if there is none, memory is full.", "the one that was used longest ago");
    int[][] orders = {{0, 1, 2, 3}, {3, 2, 1, 0}, {1, 3, 0, 2}, {0, 1, 2, 3, 0}, {0, 1, 2, 3, 1, 0, 2}};
    for (int[] order : orders) {
      MarrowHeap x = Scene.chain(5, 0);
      int[] last = new int[5];
      for (int i = 0; i < order.length; i++) {
        x.number(0, 4 * order[i], 0);
        last[order[i]] = i;
      }
      Edge.sameText("four", memory(x), "++++-");
      x.number(0, 16, 0);
      StringBuilder due = new StringBuilder("++++");
      int oldest = 0;
      for (int page = 0; page < 4; page++) {
        oldest = last[page] < last[oldest] ? page : oldest;
      }
      due.setCharAt(oldest, '-');
      Edge.sameText("one has left", memory(x), due + "+");
    }
  }

  private static void changedPagesDoNotLeave() {
    Edge.says(Edge.TERMS, "If there are 4 pages in memory, the one that was used longest ago of those that no open "
        + "transaction has changed leaves it; if there is none, memory is full.",
        "of those that no open transaction has changed");
    for (int changed = 0; changed < 16; changed++) {
      MarrowHeap x = Scene.chain(5, 0);
      int leaves = -1;
      for (int page = 0; page < 4; page++) {
        if ((changed >> page & 1) == 1) {
          x.setNumber(0, 4 * page, 0, 1);
        } else {
          x.number(0, 4 * page, 0);
          leaves = leaves < 0 ? page : leaves;
        }
      }
      if (changed == 15) {
        Edge.refusesHere(x, "all are changed", Edge.OPERATION, () -> x.number(0, 16, 0));
        x.commit(0);
        x.begin(0);
        x.lock(0, 19);
        leaves = 0;
      }
      x.number(0, 16, 0);
      for (int page = 0; page < 4; page++) {
        Edge.yes("changed " + changed + ", page " + page, x.isInMemory(page) == (page != leaves));
      }
    }
  }

  private static void memoryIsFull() {
    Edge.says(Edge.TERMS, "If there are 4 pages in memory, the one that was used longest ago of those that no open "
        + "transaction has changed leaves it; if there is none, memory is full.", "if there is none, memory is full");
    Scene full = Scene.of(() -> Scene.chain(6, 4));
    for (int object : new int[] {16, 19, 20, 23}) {
      Edge.refuses(full, "number " + object, Edge.OPERATION, x -> x.number(0, object, 0));
      Edge.refuses(full, "setNumber " + object, Edge.OPERATION, x -> x.setNumber(0, object, 0, 1));
      Edge.refuses(full, "follow " + object, Edge.OPERATION, x -> x.follow(0, object, 1));
      Edge.refuses(full, "link " + object, Edge.OPERATION, x -> x.link(0, object, 1, -1));
    }
    Edge.refuses(full, "make", Edge.OPERATION, x -> x.make(0, 1));
    for (int page = 0; page < 4; page++) {
      int it = page;
      Edge.answers(full, "a page in memory", it + 1, x -> x.number(0, 4 * it, 0));
    }
    for (int transaction = 0; transaction < 3; transaction++) {
      int it = transaction;
      Scene three = Scene.of(() -> changedByThree());
      Edge.refuses(three, "changed by three, transaction " + it, Edge.OPERATION, x -> x.make(it, 0));
      MarrowHeap x = three.fresh();
      x.commit(it);
      x.begin(it);
      Edge.yes("one of them has ended", x.make(it, 0) > 0);
    }
  }

  /** Pages 1 and 4 of transaction 0, page 2 of 1, page 3 of 2; all are full, and page 0 is not in memory. */
  private static MarrowHeap changedByThree() {
    MarrowHeap x = Scene.chain(1);
    for (int transaction = 0; transaction < 3; transaction++) {
      x.begin(transaction);
      make(x, transaction, 0, 4);
    }
    make(x, 0, 0, 4);
    Edge.sameText("memory", memory(x), "-++++");
    return x;
  }

  private static void movingBringsTwoPages() {
    Edge.says(Edge.TERMS, "When an object is met or made, its page is brought into memory if it is not there; when it "
        + "moves, then also the page into which it comes, behind that.");
    MarrowHeap x = Scene.chain(5, 0);
    x.addField(0, 'n');
    int faults = x.faults();
    x.number(0, 0, 3);
    Edge.same("its page, and the one into which it came", x.faults(), faults + 2);
    Edge.sameText("memory", memory(x), "+----+");
    x.number(0, 1, 3);
    Edge.same("there was room: none", x.faults(), faults + 2);
    x.commit(0);
    x.begin(0);
    x.lock(0, 19);
    x.number(0, 4, 3);
    Edge.same("page 1, and page 5 is there", x.faults(), faults + 3);
    x.commit(0);
    x.begin(0);
    x.lock(0, 19);
    x.number(0, 8, 3);
    Edge.sameText("four", memory(x), "+++--+");
    x.commit(0);
    x.begin(0);
    x.lock(0, 19);
    x.number(0, 12, 3);
    Edge.same("into a new page", x.pageOf(12), 6);
    Edge.sameText("the two that were used longest ago have left", memory(x), "--++-++");
  }

  private static void usingAPage() {
    Edge.says(Edge.TERMS, "A page is used when it is brought into memory, and each time an object in it is met, made "
        + "or moved into it.");
    MarrowHeap met = Scene.chain(5, 0);
    for (int page = 0; page < 4; page++) {
      met.number(0, 4 * page, 0);
    }
    met.follow(0, 3, 1);
    met.number(0, 16, 0);
    Edge.sameText("met: page 0 stays, 1 leaves", memory(met), "+-+++");
    MarrowHeap made = Scene.chain(4, 0);
    made.make(0, 1);
    made.commit(0);
    made.begin(0);
    made.lock(0, 15);
    for (int page = 0; page < 3; page++) {
      made.number(0, 4 * page, 0);
    }
    Edge.sameText("page 4 was used first", memory(made), "+++-+");
    made.make(0, 1);
    made.commit(0);
    made.begin(0);
    made.lock(0, 15);
    made.number(0, 12, 0);
    Edge.sameText("made: page 4 stays, 0 leaves", memory(made), "-++++");
    MarrowHeap locked = Scene.chain(5, 0);
    for (int page = 0; page < 4; page++) {
      locked.number(0, 4 * page, 0);
    }
    locked.lock(0, 0);
    locked.setRoot(0, 3, 0);
    locked.link(0, 15, 2, 0);
    Edge.fails("a refused call", Edge.ELEMENT, () -> locked.number(0, 0, 1));
    locked.collect(50);
    locked.number(0, 16, 0);
    Edge.sameText("not met: page 0 leaves", memory(locked), "-++++");
  }
}
