import java.util.NoSuchElementException;

/** Promises 6 to 19. Kind 0 has the fields 0 'n', 1 'r', 2 'w'; kind 1, beside it, 3 'n'; kind 2 none. */
public final class TransactionsTest {
  private static final Class<IllegalArgumentException> ARGUMENT = IllegalArgumentException.class;
  private static final Class<IndexOutOfBoundsException> INDEX = IndexOutOfBoundsException.class;
  private static final Class<IllegalStateException> STATE = IllegalStateException.class;
  private static final Class<NoSuchElementException> ELEMENT = NoSuchElementException.class;
  private static final Class<UnsupportedOperationException> OPERATION = UnsupportedOperationException.class;

  public static void main(String[] args) {
    beginCounts();
    makeNumbersAndRefuses();
    makeSeeksRoom();
    makeUsesNumbersOnce();
    lockHoldsWhatIsReached();
    lockWantsInHand();
    lockRefuses();
    heldByCounts();
    setNumberSets();
    setNumberRefuses();
    numberReads();
    numberRefuses();
    linkSets();
    linkRefuses();
    followFollows();
    followRefuses();
    setRootSets();
    setRootRefuses();
    rootTells();
    commitKeeps();
    abortUndoes();
    abortDropsPagesFromTheEnd();
    abortKeepsMemory();
    crashCountsSteps();
    crashUndoesByRisingNumbers();
    crashRefuses();
    isOpenTells();
    Check.end("TransactionsTest");
  }

  private static MarrowHeap fresh() {
    MarrowHeap x = new MarrowHeap();
    x.addKind(-1, false);
    x.addField(0, 'n');
    x.addField(0, 'r');
    x.addField(0, 'w');
    x.addKind(-1, false);
    x.addField(1, 'n');
    x.addKind(-1, false);
    return x;
  }

  private static void make(MarrowHeap x, int transaction, int kind, int count) {
    for (int i = 0; i < count; i++) {
      x.make(transaction, kind);
    }
  }

  private static void beginCounts() {
    MarrowHeap x = new MarrowHeap();
    Check.fails("begin(-1)", ARGUMENT, () -> x.begin(-1));
    Check.fails("begin(3)", ARGUMENT, () -> x.begin(3));
    Check.same("begin(2)", x.begin(2), 1);
    Check.fails("begin(2) again", STATE, () -> x.begin(2));
    Check.same("begin(0)", x.begin(0), 2);
    Check.same("begin(1)", x.begin(1), 3);
    x.commit(0);
    Check.same("begin(0) once more", x.begin(0), 3);
    x.abort(2);
    x.abort(1);
    Check.same("begin(1) once more", x.begin(1), 2);
  }

  private static void makeNumbersAndRefuses() {
    MarrowHeap x = fresh();
    Check.fails("transaction before kind", ARGUMENT, () -> x.make(3, 9));
    Check.fails("transaction -1", ARGUMENT, () -> x.make(-1, 0));
    Check.fails("kind before open", INDEX, () -> x.make(0, 3));
    Check.fails("kind -1", INDEX, () -> x.make(0, -1));
    Check.fails("not open", STATE, () -> x.make(0, 0));
    x.begin(0);
    for (int i = 0; i < 100; i++) {
      if (i % 16 == 15) {
        x.commit(0);
        x.begin(0);
      }
      Check.same("make", x.make(0, 2), i);
      Check.same("page", x.pageOf(i), i / 16);
    }
    Check.fails("hundred and first", STATE, () -> x.make(0, 2));
    Check.fails("kind comes first", INDEX, () -> x.make(0, 3));
    Check.same("pages", x.pages(), 7);
  }

  private static void makeSeeksRoom() {
    MarrowHeap x = fresh();
    x.begin(0);
    x.begin(1);
    make(x, 0, 0, 3);
    Check.same("third object's page", x.pageOf(2), 0);
    Check.same("another transaction's page", x.pageOf(x.make(1, 0)), 1);
    Check.same("own page", x.pageOf(x.make(0, 0)), 0);
    Check.same("full, the next is the other's", x.pageOf(x.make(0, 0)), 2);
    Check.same("lowest own page", x.pageOf(x.make(1, 2)), 1);
    x.commit(1);
    Check.same("lowest page with room", x.pageOf(x.make(0, 0)), 1);
    x.begin(1);
    x.make(1, 2);
    x.commit(0);
    make(x, 1, 0, 5);
    Check.fails("memory is full of changed pages", OPERATION, () -> make(x, 1, 0, 20));
    Check.same("pages", x.pages(), 5);
    fillAllPages();
  }

  private static void fillAllPages() {
    MarrowHeap x = fresh();
    x.begin(0);
    for (int page = 0; page < 12; page++) {
      x.commit(0);
      x.begin(0);
      make(x, 0, 0, 4);
      Check.same("used", x.usedOf(page), 16);
    }
    Check.same("pages", x.pages(), 12);
    x.commit(0);
    x.begin(0);
    Check.fails("no room", OPERATION, () -> x.make(0, 2));
    Check.same("no page came", x.pages(), 12);
    Check.no("no object came", x.exists(48));
  }

  private static void makeUsesNumbersOnce() {
    MarrowHeap x = fresh();
    x.begin(0);
    x.make(0, 0);
    x.make(0, 0);
    x.abort(0);
    x.begin(0);
    Check.same("number", x.make(0, 0), 2);
    Check.no("0 exists", x.exists(0));
    Check.same("page", x.pageOf(2), 0);
    Check.same("number is 0 at first", x.number(0, 2, 0), 0);
    Check.same("reference is none at first", x.follow(0, 2, 1), -1);
    Check.same("weak reference is none at first", x.follow(0, 2, 2), -1);
  }

  /** 0 -> 1 -> 2, 2 refers weakly to 3, root 0 is 0 and root 1 is 3. */
  private static MarrowHeap chain() {
    MarrowHeap x = fresh();
    x.begin(0);
    make(x, 0, 0, 4);
    x.link(0, 0, 1, 1);
    x.link(0, 1, 1, 2);
    x.link(0, 2, 2, 3);
    x.setRoot(0, 0, 0);
    x.setRoot(0, 1, 3);
    x.commit(0);
    return x;
  }

  private static void lockHoldsWhatIsReached() {
    MarrowHeap x = chain();
    x.begin(1);
    Check.same("lock(1, 1)", x.lock(1, 1), 2);
    Check.same("lock(1, 1) again", x.lock(1, 1), 0);
    Check.same("lock(1, 0)", x.lock(1, 0), 1);
    Check.same("held", x.heldBy(1), 3);
    x.begin(2);
    Check.same("the weak one is free", x.lock(2, 3), 1);
    Check.fails("held by another", OPERATION, () -> x.lock(2, 2));
    x.commit(1);
    Check.same("free again", x.lock(2, 0), 3);
    MarrowHeap y = chain();
    y.begin(0);
    y.begin(1);
    y.lock(0, 2);
    Check.fails("another holds the last of them", OPERATION, () -> y.lock(1, 0));
    Check.same("nothing is held by that", y.heldBy(1), 0);
    y.link(0, 2, 1, 2);
    y.commit(0);
    Check.same("a ring ends", y.lock(1, 0), 3);
  }

  private static void lockWantsInHand() {
    MarrowHeap x = chain();
    x.begin(0);
    x.lock(0, 0);
    x.link(0, 0, 1, -1);
    x.begin(1);
    Check.fails("in hand by what another holds", OPERATION, () -> x.lock(1, 1));
    x.commit(0);
    Check.fails("not in hand", ELEMENT, () -> x.lock(1, 1));
    Check.fails("not in hand, though referred to", ELEMENT, () -> x.lock(1, 2));
    Check.same("nothing is held", x.heldBy(1), 0);
    x.lock(1, 3);
    x.setRoot(1, 1, -1);
    Check.same("in hand by being held", x.lock(1, 3), 0);
    x.commit(1);
    x.begin(1);
    Check.fails("weak references do not count", ELEMENT, () -> x.lock(1, 3));
  }

  private static void lockRefuses() {
    MarrowHeap x = chain();
    Check.fails("lock(3, 9)", ARGUMENT, () -> x.lock(3, 9));
    Check.fails("lock(-1, 0)", ARGUMENT, () -> x.lock(-1, 0));
    Check.fails("no object, not open", INDEX, () -> x.lock(0, 4));
    Check.fails("object -1", INDEX, () -> x.lock(0, -1));
    Check.fails("not open", STATE, () -> x.lock(0, 0));
  }

  private static void heldByCounts() {
    MarrowHeap x = chain();
    Check.same("not open", x.heldBy(0), 0);
    x.begin(0);
    Check.same("nothing yet", x.heldBy(0), 0);
    x.make(0, 0);
    x.lock(0, 1);
    Check.same("one made, two locked", x.heldBy(0), 3);
    Check.same("another", x.heldBy(1), 0);
    x.abort(0);
    Check.same("ended", x.heldBy(0), 0);
    Check.fails("heldBy(3)", ARGUMENT, () -> x.heldBy(3));
    Check.fails("heldBy(-1)", ARGUMENT, () -> x.heldBy(-1));
  }

  private static void setNumberSets() {
    MarrowHeap x = chain();
    x.begin(0);
    x.lock(0, 0);
    Check.same("before", x.setNumber(0, 1, 0, 9999), 0);
    Check.same("before the next", x.setNumber(0, 1, 0, -9999), 9999);
    Check.same("number", x.number(0, 1, 0), -9999);
    Check.same("another object's", x.number(0, 0, 0), 0);
    Check.same("pages changed", x.commit(0), 1);
  }

  private static void setNumberRefuses() {
    MarrowHeap x = chain();
    Check.fails("transaction 3", ARGUMENT, () -> x.setNumber(3, 9, 9, 0));
    Check.fails("transaction -1", ARGUMENT, () -> x.setNumber(-1, 0, 0, 0));
    Check.fails("value before object", ARGUMENT, () -> x.setNumber(0, 9, 9, 10000));
    Check.fails("value -10000", ARGUMENT, () -> x.setNumber(0, 0, 0, -10000));
    Check.fails("object before open", INDEX, () -> x.setNumber(0, 4, 9, 0));
    Check.fails("not open", STATE, () -> x.setNumber(0, 0, 9, 0));
    x.begin(0);
    Check.fails("not held, before field", STATE, () -> x.setNumber(0, 0, 9, 0));
    x.begin(1);
    x.lock(1, 0);
    Check.fails("held by another", STATE, () -> x.setNumber(0, 0, 0, 0));
    Check.fails("field 1 is 'r'", ELEMENT, () -> x.setNumber(1, 0, 1, 0));
    Check.fails("field 2 is 'w'", ELEMENT, () -> x.setNumber(1, 0, 2, 0));
    Check.fails("field 3 is another kind's", ELEMENT, () -> x.setNumber(1, 0, 3, 0));
    Check.fails("field 4", ELEMENT, () -> x.setNumber(1, 0, 4, 0));
    Check.fails("field -1", ELEMENT, () -> x.setNumber(1, 0, -1, 0));
    x.lock(0, 3);
    x.setNumber(0, 3, 0, 1);
    Check.fails("field before page", ELEMENT, () -> x.setNumber(1, 0, 1, 0));
    Check.fails("the page is changed by another", OPERATION, () -> x.setNumber(1, 0, 0, 5));
    x.commit(0);
    Check.same("nothing was set", x.setNumber(1, 0, 0, 5), 0);
    Check.same("changes", x.changes(), 5);
  }

  private static void numberReads() {
    MarrowHeap x = chain();
    x.begin(0);
    x.lock(0, 3);
    x.setNumber(0, 3, 0, 77);
    x.begin(1);
    x.lock(1, 0);
    Check.same("read in a page changed by another", x.number(1, 0, 0), 0);
    Check.same("own change", x.number(0, 3, 0), 77);
    Check.same("reading changes no page", x.commit(1), 0);
    x.abort(0);
    x.begin(0);
    x.lock(0, 3);
    Check.same("undone", x.number(0, 3, 0), 0);
  }

  private static void numberRefuses() {
    MarrowHeap x = chain();
    Check.fails("transaction 3", ARGUMENT, () -> x.number(3, 9, 9));
    Check.fails("transaction -1", ARGUMENT, () -> x.number(-1, 0, 0));
    Check.fails("object before open", INDEX, () -> x.number(0, 4, 9));
    Check.fails("object -1", INDEX, () -> x.number(0, -1, 0));
    Check.fails("not open", STATE, () -> x.number(0, 0, 9));
    x.begin(0);
    Check.fails("not held", STATE, () -> x.number(0, 0, 9));
    x.lock(0, 0);
    Check.fails("field 1 is 'r'", ELEMENT, () -> x.number(0, 0, 1));
    Check.fails("field 2 is 'w'", ELEMENT, () -> x.number(0, 0, 2));
    Check.fails("field 3 is another kind's", ELEMENT, () -> x.number(0, 0, 3));
    Check.fails("field 4", ELEMENT, () -> x.number(0, 0, 4));
    Check.fails("field -1", ELEMENT, () -> x.number(0, 0, -1));
    x.addField(0, 'n');
    x.begin(1);
    x.lock(1, 3);
    Check.same("converted and moved", x.number(1, 3, 4), 0);
    Check.fails("to be converted, in a page changed by another", OPERATION, () -> x.number(0, 0, 0));
    Check.no("not converted", x.isConverted(0));
  }

  private static void linkSets() {
    MarrowHeap x = chain();
    x.begin(0);
    x.lock(0, 0);
    x.lock(0, 3);
    Check.same("before", x.link(0, 0, 1, 3), 1);
    Check.same("before the next", x.link(0, 0, 1, 0), 3);
    Check.same("itself", x.follow(0, 0, 1), 0);
    Check.same("none", x.link(0, 0, 1, -1), 0);
    Check.same("from none", x.link(0, 0, 1, -1), -1);
    Check.same("weak", x.link(0, 2, 2, 1), 3);
    Check.same("weak, read", x.follow(0, 2, 2), 1);
    Check.same("the other field", x.follow(0, 2, 1), -1);
    Check.same("pages changed", x.commit(0), 1);
  }

  private static void linkRefuses() {
    MarrowHeap x = chain();
    Check.fails("transaction 3", ARGUMENT, () -> x.link(3, 9, 9, 9));
    Check.fails("transaction -1", ARGUMENT, () -> x.link(-1, 0, 1, 0));
    Check.fails("object before open", INDEX, () -> x.link(0, 4, 9, 0));
    Check.fails("object -1", INDEX, () -> x.link(0, -1, 1, 0));
    Check.fails("target before open", INDEX, () -> x.link(0, 0, 9, 4));
    Check.fails("target -2", INDEX, () -> x.link(0, 0, 1, -2));
    Check.fails("not open", STATE, () -> x.link(0, 0, 9, -1));
    x.begin(0);
    Check.fails("object not held", STATE, () -> x.link(0, 0, 9, -1));
    x.lock(0, 0);
    Check.fails("target not held, before field", STATE, () -> x.link(0, 0, 9, 3));
    Check.fails("field 0 is 'n'", ELEMENT, () -> x.link(0, 0, 0, 1));
    Check.fails("field 3 is another kind's", ELEMENT, () -> x.link(0, 0, 3, 1));
    Check.fails("field 4", ELEMENT, () -> x.link(0, 0, 4, -1));
    Check.fails("field -1", ELEMENT, () -> x.link(0, 0, -1, -1));
    x.begin(1);
    x.lock(1, 3);
    x.setNumber(1, 3, 0, 1);
    Check.fails("the page is changed by another", OPERATION, () -> x.link(0, 0, 1, -1));
    x.commit(1);
    Check.same("nothing was set", x.follow(0, 0, 1), 1);
    Check.same("changes", x.changes(), 4);
  }

  private static void followFollows() {
    MarrowHeap x = chain();
    x.begin(0);
    x.lock(0, 0);
    Check.same("reference", x.follow(0, 0, 1), 1);
    Check.same("weak, to what is not held", x.follow(0, 2, 2), 3);
    Check.same("none", x.follow(0, 2, 1), -1);
    Check.same("following changes no page", x.commit(0), 0);
    x.begin(0);
    x.lock(0, 0);
    x.lock(0, 3);
    x.link(0, 2, 2, -1);
    x.setRoot(0, 1, -1);
    x.commit(0);
    x.collect(30);
    Check.no("the weak one is freed", x.exists(3));
    x.begin(0);
    x.lock(0, 0);
    Check.same("it refers to none", x.follow(0, 2, 2), -1);
    weakToFreedByUndoing();
  }

  /** An abort brings a weak reference back whose object was freed in the meantime. */
  private static void weakToFreedByUndoing() {
    MarrowHeap x = fresh();
    x.begin(0);
    make(x, 0, 0, 4);
    x.make(0, 0);
    x.link(0, 0, 2, 4);
    x.setRoot(0, 0, 0);
    x.commit(0);
    x.begin(0);
    x.lock(0, 0);
    x.link(0, 0, 2, -1);
    Check.same("page of the target", x.pageOf(4), 1);
    for (int i = 0; i < 30 && x.exists(4); i++) {
      x.collect(1);
    }
    Check.yes("hindered ahead of it", x.exists(4) && x.phase() == 's');
    x.commit(0);
    MarrowHeap y = fresh();
    y.begin(0);
    make(y, 0, 0, 4);
    y.make(0, 2);
    y.setRoot(0, 0, 0);
    y.link(0, 0, 1, 1);
    y.link(0, 1, 1, 2);
    y.link(0, 2, 1, 3);
    y.link(0, 0, 2, 4);
    y.commit(0);
    y.begin(0);
    y.lock(0, 0);
    y.link(0, 0, 2, -1);
    y.collect(12);
    Check.no("freed, as its page is not changed", y.exists(4));
    y.abort(0);
    y.begin(0);
    y.lock(0, 0);
    Check.same("brought back, but to none", y.follow(0, 0, 2), -1);
    Check.same("no object before", y.link(0, 0, 2, 1), -1);
  }

  private static void followRefuses() {
    MarrowHeap x = chain();
    Check.fails("transaction 3", ARGUMENT, () -> x.follow(3, 9, 9));
    Check.fails("transaction -1", ARGUMENT, () -> x.follow(-1, 0, 1));
    Check.fails("object before open", INDEX, () -> x.follow(0, 4, 9));
    Check.fails("object -1", INDEX, () -> x.follow(0, -1, 1));
    Check.fails("not open", STATE, () -> x.follow(0, 0, 9));
    x.begin(0);
    Check.fails("not held", STATE, () -> x.follow(0, 0, 9));
    x.lock(0, 0);
    Check.fails("field 0 is 'n'", ELEMENT, () -> x.follow(0, 0, 0));
    Check.fails("field 3 is another kind's", ELEMENT, () -> x.follow(0, 0, 3));
    Check.fails("field 4", ELEMENT, () -> x.follow(0, 0, 4));
    Check.fails("field -1", ELEMENT, () -> x.follow(0, 0, -1));
    x.addField(0, 'n');
    x.begin(1);
    x.lock(1, 3);
    x.number(1, 3, 0);
    Check.fails("to be converted, in a page changed by another", OPERATION, () -> x.follow(0, 0, 1));
  }

  private static void setRootSets() {
    MarrowHeap x = chain();
    x.begin(0);
    x.lock(0, 0);
    Check.same("before", x.setRoot(0, 0, 2), 0);
    Check.same("before the next", x.setRoot(0, 0, -1), 2);
    Check.same("from none", x.setRoot(0, 3, 1), -1);
    Check.same("root 3", x.root(3), 1);
    Check.same("roots are in no page", x.commit(0), 0);
    Check.same("kept", x.root(0), -1);
    x.begin(0);
    x.lock(0, 1);
    x.setRoot(0, 3, 2);
    x.setRoot(0, 3, -1);
    x.abort(0);
    Check.same("as before the first change", x.root(3), 1);
  }

  private static void setRootRefuses() {
    MarrowHeap x = chain();
    Check.fails("transaction 3", ARGUMENT, () -> x.setRoot(3, 0, 9));
    Check.fails("transaction -1", ARGUMENT, () -> x.setRoot(-1, 0, 0));
    Check.fails("root 4 before object", ARGUMENT, () -> x.setRoot(0, 4, 9));
    Check.fails("root -1", ARGUMENT, () -> x.setRoot(0, -1, 0));
    Check.fails("object before open", INDEX, () -> x.setRoot(0, 0, 4));
    Check.fails("object -2", INDEX, () -> x.setRoot(0, 0, -2));
    Check.fails("not open", STATE, () -> x.setRoot(0, 0, -1));
    x.begin(0);
    x.begin(1);
    x.setRoot(1, 0, -1);
    Check.fails("not held, before root changed", STATE, () -> x.setRoot(0, 0, 3));
    x.lock(0, 3);
    Check.fails("changed by another", OPERATION, () -> x.setRoot(0, 0, 3));
    Check.fails("changed by another, to none", OPERATION, () -> x.setRoot(0, 0, -1));
    Check.same("not set", x.root(0), -1);
    x.abort(1);
    Check.same("free again", x.setRoot(0, 0, 3), 0);
  }

  private static void rootTells() {
    MarrowHeap x = chain();
    Check.same("root 0", x.root(0), 0);
    Check.same("root 1", x.root(1), 3);
    Check.same("root 3", x.root(3), -1);
    Check.fails("root 4", ARGUMENT, () -> x.root(4));
    Check.fails("root -1", ARGUMENT, () -> x.root(-1));
  }

  private static void commitKeeps() {
    MarrowHeap x = fresh();
    Check.fails("commit(3)", ARGUMENT, () -> x.commit(3));
    Check.fails("commit(-1)", ARGUMENT, () -> x.commit(-1));
    Check.fails("not open", STATE, () -> x.commit(0));
    x.begin(0);
    Check.same("nothing changed", x.commit(0), 0);
    x.begin(0);
    make(x, 0, 0, 9);
    x.setNumber(0, 8, 0, 3);
    Check.same("three pages", x.commit(0), 3);
    Check.no("not open any more", x.isOpen(0));
    x.begin(0);
    Check.yes("kept", x.exists(8));
    Check.same("nothing is held", x.heldBy(0), 0);
    Check.same("an abort later", x.abort(0), 0);
    Check.same("does not undo it", x.pages(), 3);
  }

  private static void abortUndoes() {
    MarrowHeap x = chain();
    Check.fails("abort(3)", ARGUMENT, () -> x.abort(3));
    Check.fails("abort(-1)", ARGUMENT, () -> x.abort(-1));
    Check.fails("not open", STATE, () -> x.abort(0));
    x.begin(0);
    Check.same("nothing changed", x.abort(0), 0);
    x.begin(0);
    x.lock(0, 0);
    x.lock(0, 3);
    x.setNumber(0, 1, 0, 5);
    x.setNumber(0, 1, 0, 6);
    x.link(0, 1, 1, 3);
    x.link(0, 2, 2, -1);
    x.make(0, 0);
    x.setRoot(0, 2, 4);
    Check.same("two pages", x.abort(0), 2);
    Check.no("what it made is gone", x.exists(4));
    Check.same("root 2", x.root(2), -1);
    Check.same("pages", x.pages(), 1);
    Check.same("used", x.usedOf(0), 16);
    x.begin(0);
    x.lock(0, 0);
    Check.same("number", x.number(0, 1, 0), 0);
    Check.same("reference", x.follow(0, 1, 1), 2);
    Check.same("weak reference", x.follow(0, 2, 2), 3);
    Check.yes("sound", x.isSound());
  }

  private static void abortDropsPagesFromTheEnd() {
    MarrowHeap x = fresh();
    x.begin(0);
    x.begin(1);
    make(x, 0, 0, 1);
    make(x, 1, 0, 1);
    make(x, 0, 0, 4);
    Check.same("pages", x.pages(), 3);
    Check.same("pages changed", x.abort(0), 2);
    Check.same("the last is gone", x.pages(), 2);
    Check.same("the first stays, empty", x.usedOf(0), 0);
    Check.same("page of the other", x.pageOf(1), 1);
    x.abort(1);
    Check.same("only those that it made", x.pages(), 1);
    x.begin(1);
    Check.same("an empty page is filled again", x.pageOf(x.make(1, 0)), 0);
    x.abort(1);
    Check.same("and stays, as it did not make it", x.pages(), 1);
  }

  private static void abortKeepsMemory() {
    MarrowHeap x = fresh();
    x.begin(0);
    make(x, 0, 0, 4);
    x.commit(0);
    x.begin(0);
    make(x, 0, 0, 4);
    x.abort(0);
    Check.yes("page 0", x.isInMemory(0));
    x.begin(0);
    x.make(0, 0);
    Check.same("the page that was gone is brought again", x.faults(), 3);
  }

  private static void crashCountsSteps() {
    for (int steps = 0; steps < 5; steps++) {
      MarrowHeap x = fresh();
      x.begin(1);
      x.begin(2);
      make(x, 1, 0, 8);
      x.setRoot(1, 0, 0);
      boolean kept = steps >= 3;
      Check.same("undone at " + steps, x.crash(1, steps), kept ? 1 : 2);
      Check.yes("exists", x.exists(0) == kept);
      Check.same("root", x.root(0), kept ? 0 : -1);
      Check.same("pages", x.pages(), kept ? 2 : 0);
      Check.no("open 1", x.isOpen(1));
      Check.no("open 2", x.isOpen(2));
      if (kept) {
        Check.no("memory is empty", x.isInMemory(0) || x.isInMemory(1));
      }
      Check.same("faults stay", x.faults(), 2);
    }
    MarrowHeap y = fresh();
    y.begin(0);
    Check.same("one step without a page", y.crash(0, 1), 0);
    y.begin(0);
    Check.same("no step without a page", y.crash(0, 0), 1);
    Check.same("nothing open", y.crash(-1, Integer.MAX_VALUE), 0);
  }

  private static void crashUndoesByRisingNumbers() {
    MarrowHeap x = fresh();
    x.begin(0);
    x.begin(1);
    make(x, 1, 0, 1);
    make(x, 0, 0, 1);
    Check.same("undone", x.crash(-1, 0), 2);
    Check.same("the end first: none stays", x.pages(), 0);
    x.begin(0);
    x.begin(1);
    make(x, 0, 0, 1);
    make(x, 1, 0, 1);
    Check.same("undone again", x.crash(-1, 9), 2);
    Check.same("page 0 was not at the end", x.pages(), 1);
    x.begin(0);
    x.make(0, 0);
    x.commit(0);
    x.collect(2);
    x.crash(-1, 0);
    Check.same("the collector stays", x.phase(), 's');
  }

  private static void crashRefuses() {
    MarrowHeap x = fresh();
    Check.fails("crash(3, 0)", ARGUMENT, () -> x.crash(3, 0));
    Check.fails("crash(-2, 0)", ARGUMENT, () -> x.crash(-2, 0));
    Check.fails("crash(0, -1)", ARGUMENT, () -> x.crash(0, -1));
    Check.fails("crash(-1, -1)", ARGUMENT, () -> x.crash(-1, -1));
    Check.fails("not open", STATE, () -> x.crash(0, 0));
    x.begin(1);
    x.make(1, 0);
    Check.fails("another is open", STATE, () -> x.crash(0, 5));
    Check.yes("nothing is undone by that", x.isOpen(1) && x.exists(0) && x.isInMemory(0));
  }

  private static void isOpenTells() {
    MarrowHeap x = fresh();
    Check.no("at first", x.isOpen(2));
    x.begin(2);
    Check.yes("begun", x.isOpen(2));
    Check.no("another", x.isOpen(1));
    x.abort(2);
    Check.no("aborted", x.isOpen(2));
    Check.fails("isOpen(3)", ARGUMENT, () -> x.isOpen(3));
    Check.fails("isOpen(-1)", ARGUMENT, () -> x.isOpen(-1));
  }
}
