import java.util.function.Consumer;

/** The edges of the promises 6 to 9 and 14 to 19: transactions, what they hold, roots, and crashes. */
public final class EdgeTransactionsTest {
  private static final String NO_TRANSACTION = "Throws `IllegalArgumentException` if there is no such transaction";
  private static final String NOT_OPEN = "Throws `IllegalStateException` if the transaction is not open";

  public static void main(String[] args) {
    beginTakesZeroToTwo();
    beginRefusesOtherNumbers();
    beginRefusesWhatIsOpen();
    makeRefusesTransactionsThatAreNotThere();
    makeRefusesKindsThatAreNotThere();
    makeRefusesWhatIsNotOpen();
    makeRefusesTheHundredAndFirst();
    makeRefusesWithoutRoom();
    makeRefusesWithoutMemory();
    lockRefusesTransactionsThatAreNotThere();
    lockRefusesObjectsThatAreNotThere();
    lockRefusesWhatIsNotOpen();
    lockRefusesWhatIsNotInHand();
    lockRefusesWhatAnotherHolds();
    heldByRefusesOtherNumbers();
    setRootTakesZeroToThree();
    setRootTakesObjectsAndNone();
    setRootRefusesTransactionsThatAreNotThere();
    setRootRefusesRootsThatAreNotThere();
    setRootRefusesObjectsThatAreNotThere();
    setRootRefusesWhatIsNotOpen();
    setRootRefusesWhatIsNotHeld();
    setRootRefusesRootsThatAnotherChanged();
    rootTakesZeroToThree();
    rootRefusesOtherNumbers();
    commitRefusesOtherNumbers();
    commitRefusesWhatIsNotOpen();
    abortRefusesOtherNumbers();
    abortRefusesWhatIsNotOpen();
    crashTakesTransactionsAndNone();
    crashRefusesTransactionsThatAreNotThere();
    crashRefusesLessThanNoSteps();
    crashRefusesWhatIsNotOpen();
    isOpenRefusesOtherNumbers();
    threeCanBeOpen();
    heldUntilTheEnd();
    inHandInFourWays();
    abortBringsPagesBack();
    abortTakesPagesFromTheEnd();
    abortBringsRootsBack();
    abortTakesObjects();
    numbersAreUsedOnce();
    coloursAndEndsAreNotUndone();
    crashUndoesByRisingNumbers();
    crashEmptiesMemory();
    crashCountsSteps();
    Check.end("EdgeTransactionsTest");
  }

  private interface OnTransaction {
    void call(MarrowHeap x, int transaction);
  }

  /** Refused with the numbers beside 0 to 2 and at the ends of int, whatever the state is. */
  private static void refusesNumbers(OnTransaction it) {
    for (int number : new int[] {-1, 3, -2, 4, Edge.LEAST, Edge.GREATEST}) {
      Edge.refuses(Scene.EMPTY, "transaction " + number + ", empty", Edge.ARGUMENT, x -> it.call(x, number));
      Edge.refuses(Scene.SMALL, "transaction " + number, Edge.ARGUMENT, x -> it.call(x, number));
    }
    Edge.refuses(Scene.FULL, "transaction 3, full", Edge.ARGUMENT, x -> it.call(x, 3));
    Edge.refuses(Scene.FULL, "transaction -1, full", Edge.ARGUMENT, x -> it.call(x, -1));
  }

  /** Refused ahead of begin, and behind each of the ways in which a transaction ends. */
  private static void refusesClosed(OnTransaction it) {
    Edge.refuses(Scene.SMALL, "never begun but for one that was aborted", Edge.STATE, x -> it.call(x, 2));
    for (int number = 0; number < 3; number++) {
      int t = number;
      Edge.refuses(ended(x -> x.commit(t), t), "committed: " + t, Edge.STATE, x -> it.call(x, t));
      Edge.refuses(ended(x -> x.abort(t), t), "aborted: " + t, Edge.STATE, x -> it.call(x, t));
      Edge.refuses(ended(x -> x.crash(t, 99), t), "committed by a crash: " + t, Edge.STATE, x -> it.call(x, t));
      Edge.refuses(ended(x -> x.crash(-1, 0), t), "undone by a crash: " + t, Edge.STATE, x -> it.call(x, t));
    }
  }

  private static Scene ended(Consumer<MarrowHeap> end, int transaction) {
    return Scene.of(() -> {
      MarrowHeap x = Scene.SMALL.fresh();
      if (transaction == 2) {
        x.begin(2);
      }
      end.accept(x);
      return x;
    });
  }

  /** Refused objects: freed, undone, not made, and the ends of int. */
  private static void refusesObjects(java.util.function.ObjIntConsumer<MarrowHeap> it, boolean noneIsOne) {
    for (int object : new int[] {5, 7, 8, 99, 100, -1, -2, Edge.LEAST, Edge.GREATEST}) {
      if (object != -1 || noneIsOne) {
        Edge.refuses(Scene.SMALL, "object " + object, Edge.INDEX, x -> it.accept(x, object));
      }
    }
    Edge.refuses(Scene.EMPTY, "object 0 of an empty database", Edge.INDEX, x -> it.accept(x, 0));
    Edge.refuses(Scene.FULL, "object 100 of a full database", Edge.INDEX, x -> it.accept(x, 100));
  }

  private static MarrowHeap opened(int... transactions) {
    MarrowHeap x = new MarrowHeap();
    x.addKind(-1, false);
    for (int transaction : transactions) {
      x.begin(transaction);
    }
    return x;
  }

  // ---- promise 6

  private static void beginTakesZeroToTwo() {
    Edge.says(6, "`transaction`: the transaction, 0 to 2");
    for (int transaction = 0; transaction <= 2; transaction++) {
      int it = transaction;
      MarrowHeap x = Edge.answers(Scene.EMPTY, "begin(" + it + ")", 1, y -> y.begin(it));
      Edge.yes("it is open", x.isOpen(it));
      Edge.no("the next is not", x.isOpen((it + 1) % 3));
    }
  }

  private static void beginRefusesOtherNumbers() {
    Edge.says(6, NO_TRANSACTION);
    refusesNumbers((x, t) -> x.begin(t));
  }

  private static void beginRefusesWhatIsOpen() {
    Edge.says(6, "Throws `IllegalStateException` if it is open");
    Edge.refuses(Scene.SMALL, "transaction 0", Edge.STATE, x -> x.begin(0));
    Edge.refuses(Scene.SMALL, "transaction 1", Edge.STATE, x -> x.begin(1));
    Edge.answers(Scene.SMALL, "transaction 2, the third", 3, x -> x.begin(2));
    for (int transaction = 0; transaction <= 2; transaction++) {
      int it = transaction;
      Edge.refuses(Scene.FULL, "all are open: " + it, Edge.STATE, x -> x.begin(it));
      Edge.answers(ended(x -> x.commit(it), it), "committed: " + it, it == 2 ? 3 : 2, x -> x.begin(it));
      Edge.answers(ended(x -> x.abort(it), it), "aborted: " + it, it == 2 ? 3 : 2, x -> x.begin(it));
      Edge.answers(ended(x -> x.crash(-1, 0), it), "crashed: " + it, 1, x -> x.begin(it));
    }
  }

  // ---- promise 7

  private static void makeRefusesTransactionsThatAreNotThere() {
    Edge.says(7, NO_TRANSACTION);
    refusesNumbers((x, t) -> x.make(t, 0));
    for (int transaction = 0; transaction < 3; transaction++) {
      int it = transaction;
      Edge.answers(Scene.of(() -> opened(it)), "transaction " + it, 0, x -> x.make(it, 0));
    }
  }

  private static void makeRefusesKindsThatAreNotThere() {
    Edge.says(7, "Throws `IndexOutOfBoundsException` if there is no such kind");
    for (int kind : new int[] {3, -1, 8, Edge.LEAST, Edge.GREATEST}) {
      Edge.refuses(Scene.SMALL, "kind " + kind, Edge.INDEX, x -> x.make(0, kind));
    }
    Edge.answers(Scene.SMALL, "the last kind", 8, x -> x.make(0, 2));
    Edge.refuses(Scene.FULL, "kind 8 of a full database", Edge.INDEX, x -> x.make(0, 8));
    Edge.refuses(Scene.of(() -> {
      MarrowHeap x = new MarrowHeap();
      x.begin(0);
      return x;
    }), "kind 0 of none", Edge.INDEX, x -> x.make(0, 0));
  }

  private static void makeRefusesWhatIsNotOpen() {
    Edge.says(7, "Throws `IllegalStateException` if the transaction is not open, or 100 objects were made",
        "if the transaction is not open");
    refusesClosed((x, t) -> x.make(t, 0));
    Edge.refuses(Scene.of(() -> opened(0, 1)), "the two others are open", Edge.STATE, x -> x.make(2, 0));
  }

  private static void makeRefusesTheHundredAndFirst() {
    Edge.says(7, "Throws `IllegalStateException` if the transaction is not open, or 100 objects were made",
        "or 100 objects were made");
    Scene kept = Scene.of(() -> made(99, 0));
    MarrowHeap x = Edge.answers(kept, "the hundredth", 99, y -> y.make(0, 0));
    Edge.refusesHere(x, "the next", Edge.STATE, () -> x.make(0, 0));
    Edge.same("pages", x.pages(), 7);
    Edge.refuses(Scene.of(() -> made(100, 0)), "the next", Edge.STATE, y -> y.make(0, 0));
    Edge.answers(Scene.of(() -> made(99, 1)), "those that are undone count: the hundredth", 99, y -> y.make(0, 0));
    Edge.refuses(Scene.of(() -> made(100, 1)), "those that are undone count: the next", Edge.STATE, y -> y.make(0, 0));
    Edge.answers(Scene.of(() -> made(99, 2)), "those that are freed count: the hundredth", 99, y -> y.make(0, 0));
    Edge.refuses(Scene.of(() -> made(100, 2)), "those that are freed count: the next", Edge.STATE, y -> y.make(0, 0));
    for (int transaction = 0; transaction < 3; transaction++) {
      int it = transaction;
      Edge.refuses(Scene.FULL, "full, transaction " + it, Edge.STATE, y -> y.make(it, 0));
    }
  }

  /** So many objects of size 1 were made, and are kept (0), undone (1) or freed (2); transaction 0 is open. */
  private static MarrowHeap made(int count, int fate) {
    MarrowHeap x = opened(0);
    for (int i = 0; i < count; i++) {
      x.make(0, 0);
      if (i % 30 == 29) {
        finish(x, fate);
      }
    }
    finish(x, fate);
    return x;
  }

  private static void finish(MarrowHeap x, int fate) {
    if (fate == 1) {
      x.abort(0);
    } else {
      x.commit(0);
    }
    if (fate == 2) {
      x.collect(99);
    }
    x.begin(0);
  }

  private static void makeRefusesWithoutRoom() {
    Edge.says(7, "Throws `UnsupportedOperationException` if there is no room for it, or memory is full",
        "if there is no room for it");
    MarrowHeap twelfth = Edge.answers(Scene.of(() -> roomy(11, 16)), "into a new page", 40 + 16, x -> x.make(0, 0));
    Edge.same("the twelfth", twelfth.pageOf(56), 11);
    Scene none = Scene.of(() -> roomy(12, 16));
    Edge.refuses(none, "12 full pages", Edge.OPERATION, x -> x.make(0, 0));
    Edge.refuses(none, "12 full pages, the least object", Edge.OPERATION, x -> x.make(0, 1));
    for (int used = 12; used <= 15; used++) {
      int units = used;
      Scene scene = Scene.of(() -> roomy(12, units));
      if (used == 12) {
        MarrowHeap x = Edge.answers(scene, "4 units into 4", 44 + 12, y -> y.make(0, 0));
        Edge.same("page", x.pageOf(56), 11);
        Edge.same("used", x.usedOf(11), 16);
      } else {
        Edge.refuses(scene, "4 units into " + (16 - used), Edge.OPERATION, x -> x.make(0, 0));
        Edge.answers(scene, "1 unit into " + (16 - used), 44 + used, x -> x.make(0, 1));
      }
    }
    Scene taken = Scene.of(() -> {
      MarrowHeap x = roomy(12, 12);
      x.begin(1);
      x.make(1, 1);
      return x;
    });
    Edge.refuses(taken, "another transaction has changed the page with room", Edge.OPERATION, x -> x.make(0, 1));
    Edge.answers(taken, "this one may", 44 + 13, x -> x.make(1, 1));
  }

  /** Pages that are full but for the last, of which so many units are used; all is committed, 0 is open. */
  private static MarrowHeap roomy(int pages, int usedOfLast) {
    MarrowHeap x = Scene.chain(pages - 1);
    x.begin(0);
    for (int i = 0; i < usedOfLast; i++) {
      x.make(0, 1);
    }
    x.commit(0);
    x.begin(0);
    return x;
  }

  private static void makeRefusesWithoutMemory() {
    Edge.says(7, "Throws `UnsupportedOperationException` if there is no room for it, or memory is full",
        "or memory is full");
    for (int changed = 0; changed <= 4; changed++) {
      int count = changed;
      Scene scene = Scene.of(() -> Scene.chain(5, count));
      if (changed < 4) {
        Edge.answers(scene, changed + " pages are changed", 20, x -> x.make(0, 0));
      } else {
        Edge.refuses(scene, "4 pages are changed", Edge.OPERATION, x -> x.make(0, 0));
        Edge.refuses(scene, "4 pages are changed, the least object", Edge.OPERATION, x -> x.make(0, 1));
      }
    }
    Scene others = Scene.of(() -> {
      MarrowHeap x = Scene.chain(5, 4);
      x.begin(1);
      return x;
    });
    Edge.refuses(others, "another transaction has changed the 4", Edge.OPERATION, x -> x.make(1, 1));
    Edge.answers(Scene.of(() -> {
      MarrowHeap x = others.fresh();
      x.commit(0);
      return x;
    }), "it has committed", 20, x -> x.make(1, 1));
    Scene inside = Scene.of(() -> {
      MarrowHeap x = Scene.chain(3, 3);
      x.make(0, 0);
      return x;
    });
    Edge.answers(inside, "4 pages are changed, one of them has room", 13, x -> x.make(0, 0));
  }

  // ---- promise 8

  private static void lockRefusesTransactionsThatAreNotThere() {
    Edge.says(8, NO_TRANSACTION);
    refusesNumbers((x, t) -> x.lock(t, 0));
  }

  private static void lockRefusesObjectsThatAreNotThere() {
    Edge.says(8, "Throws `IndexOutOfBoundsException` if there is no such object");
    refusesObjects((x, object) -> x.lock(0, object), true);
    Edge.answers(Scene.SMALL, "the last", 0, x -> x.lock(1, 6));
  }

  private static void lockRefusesWhatIsNotOpen() {
    Edge.says(8, NOT_OPEN);
    refusesClosed((x, t) -> x.lock(t, 4));
  }

  private static void lockRefusesWhatIsNotInHand() {
    Edge.says(8, "Throws `NoSuchElementException` if it is not in hand");
    Scene loose = Scene.of(() -> {
      MarrowHeap x = Scene.chain(1);
      x.begin(0);
      x.lock(0, 3);
      x.make(0, 0);
      x.link(0, 3, 2, 4);
      x.link(0, 2, 1, -1);
      x.commit(0);
      x.begin(1);
      return x;
    });
    Edge.answers(loose, "from a root", 2, x -> x.lock(1, 3));
    Edge.answers(loose, "reached from one", 1, x -> x.lock(1, 2));
    Edge.refuses(loose, "not reached", Edge.ELEMENT, x -> x.lock(1, 1));
    Edge.refuses(loose, "reached only from what is not", Edge.ELEMENT, x -> x.lock(1, 0));
    Edge.refuses(loose, "over a weak reference alone", Edge.ELEMENT, x -> x.lock(1, 4));
    Edge.refuses(Scene.of(() -> {
      MarrowHeap x = new MarrowHeap();
      x.addKind(-1, true);
      x.begin(0);
      x.make(0, 0);
      x.commit(0);
      x.collect(2);
      x.begin(0);
      x.callEnd(0);
      x.commit(0);
      x.begin(0);
      return x;
    }), "does not wait any more", Edge.ELEMENT, x -> x.lock(0, 0));
  }

  private static void lockRefusesWhatAnotherHolds() {
    Edge.says(8, "Throws `UnsupportedOperationException` if another transaction holds one of them");
    for (int other = 0; other < 4; other++) {
      int held = other;
      Scene scene = Scene.of(() -> {
        MarrowHeap x = Scene.chain(1);
        x.begin(0);
        x.begin(1);
        x.lock(0, held);
        x.setNumber(0, held, 0, 1);
        return x;
      });
      for (int object = 0; object < 4; object++) {
        int it = object;
        Edge.refuses(scene, "holds up to " + held + ", lock " + it, Edge.OPERATION, x -> x.lock(1, it));
      }
      Edge.answers(scene, "this one holds it", 3 - held, x -> x.lock(0, 3));
      Edge.answers(Scene.of(() -> {
        MarrowHeap x = scene.fresh();
        x.abort(0);
        return x;
      }), "it has ended", 4, x -> x.lock(1, 3));
    }
    Edge.answers(Scene.of(() -> {
      MarrowHeap x = Scene.chain(1);
      x.begin(0);
      x.begin(1);
      x.lock(0, 3);
      x.link(0, 3, 1, -1);
      x.link(0, 3, 2, 2);
      x.setRoot(0, 1, 2);
      x.commit(0);
      x.begin(0);
      x.lock(0, 2);
      return x;
    }), "only over a weak reference", 1, x -> x.lock(1, 3));
  }

  // ---- promise 9

  private static void heldByRefusesOtherNumbers() {
    Edge.says(9, NO_TRANSACTION);
    refusesNumbers((x, t) -> x.heldBy(t));
    Edge.answers(Scene.EMPTY, "none", 0, x -> x.heldBy(0));
    Edge.answers(Scene.SMALL, "not open", 0, x -> x.heldBy(2));
    Edge.answers(Scene.FULL, "all that a full page has, and the chain", 8 + 8, x -> x.heldBy(0));
    Edge.answers(Scene.FULL, "two full pages", 16, x -> x.heldBy(2));
  }

  // ---- promises 14 and 15

  private static void setRootTakesZeroToThree() {
    Edge.says(14, "`root`: the root, 0 to 3");
    Scene scene = Scene.of(() -> {
      MarrowHeap x = opened(0);
      x.make(0, 0);
      return x;
    });
    for (int root = 0; root < 4; root++) {
      int it = root;
      MarrowHeap x = Edge.answers(scene, "root " + it, -1, y -> y.setRoot(0, it, 0));
      for (int other = 0; other < 4; other++) {
        Edge.same("root " + other + " then", x.root(other), other == it ? 0 : -1);
      }
    }
  }

  private static void setRootTakesObjectsAndNone() {
    Edge.says(14, "`object`: the object, or -1 for none");
    Edge.answers(Scene.SMALL, "none", 0, x -> x.setRoot(0, 0, -1));
    Edge.answers(Scene.SMALL, "none again", -1, x -> x.setRoot(0, 3, -1));
    Edge.answers(Scene.SMALL, "the first", -1, x -> x.setRoot(0, 3, 0));
    Edge.answers(Scene.FULL, "the last", 99 - 7, x -> x.setRoot(2, 3, 99));
  }

  private static void setRootRefusesTransactionsThatAreNotThere() {
    Edge.says(14, "Throws `IllegalArgumentException` if there is no such transaction or root", "transaction");
    refusesNumbers((x, t) -> x.setRoot(t, 0, -1));
  }

  private static void setRootRefusesRootsThatAreNotThere() {
    Edge.says(14, "Throws `IllegalArgumentException` if there is no such transaction or root", "root");
    for (int root : new int[] {-1, 4, Edge.LEAST, Edge.GREATEST}) {
      Edge.refuses(Scene.EMPTY, "root " + root + ", empty", Edge.ARGUMENT, x -> x.setRoot(0, root, -1));
      Edge.refuses(Scene.SMALL, "root " + root, Edge.ARGUMENT, x -> x.setRoot(0, root, 0));
      Edge.refuses(Scene.FULL, "root " + root + ", full", Edge.ARGUMENT, x -> x.setRoot(0, root, -1));
    }
  }

  private static void setRootRefusesObjectsThatAreNotThere() {
    Edge.says(14, "Throws `IndexOutOfBoundsException` if there is no such object, and it is not -1");
    refusesObjects((x, object) -> x.setRoot(0, 3, object), false);
  }

  private static void setRootRefusesWhatIsNotOpen() {
    Edge.says(14, "Throws `IllegalStateException` if the transaction is not open, or it does not hold the object",
        "if the transaction is not open");
    refusesClosed((x, t) -> x.setRoot(t, 3, -1));
    refusesClosed((x, t) -> x.setRoot(t, 3, 0));
  }

  private static void setRootRefusesWhatIsNotHeld() {
    Edge.says(14, "Throws `IllegalStateException` if the transaction is not open, or it does not hold the object",
        "or it does not hold the object");
    Edge.refuses(Scene.SMALL, "held by none", Edge.STATE, x -> x.setRoot(0, 3, 3));
    Edge.refuses(Scene.SMALL, "held by another", Edge.STATE, x -> x.setRoot(0, 3, 4));
    Edge.refuses(Scene.SMALL, "held by another, the other way", Edge.STATE, x -> x.setRoot(1, 3, 0));
    Edge.answers(Scene.SMALL, "held", -1, x -> x.setRoot(0, 3, 2));
    Edge.answers(Scene.SMALL, "made", -1, x -> x.setRoot(1, 3, 6));
    Edge.answers(Scene.SMALL, "none need not be held", -1, x -> x.setRoot(1, 3, -1));
  }

  private static void setRootRefusesRootsThatAnotherChanged() {
    Edge.says(14, "Throws `UnsupportedOperationException` if another open transaction has changed the root");
    Edge.refuses(Scene.SMALL, "root 2, changed by 0", Edge.OPERATION, x -> x.setRoot(1, 2, 4));
    Edge.refuses(Scene.SMALL, "root 1, changed by 1", Edge.OPERATION, x -> x.setRoot(0, 1, 0));
    Edge.refuses(Scene.SMALL, "to none", Edge.OPERATION, x -> x.setRoot(0, 1, -1));
    Edge.answers(Scene.SMALL, "by the one that changed it", 1, x -> x.setRoot(0, 2, 0));
    Edge.answers(Scene.SMALL, "a root that none changed", 0, x -> x.setRoot(1, 0, 4));
    Edge.refuses(Scene.of(() -> {
      MarrowHeap x = Scene.SMALL.fresh();
      x.setRoot(0, 0, 0);
      return x;
    }), "changed to what it was", Edge.OPERATION, x -> x.setRoot(1, 0, 4));
    Edge.answers(ended(x -> x.commit(0), 0), "it has committed", 1, x -> x.setRoot(1, 2, 4));
    Edge.answers(ended(x -> x.abort(0), 0), "it was aborted", -1, x -> x.setRoot(1, 2, 4));
  }

  private static void rootTakesZeroToThree() {
    Edge.says(15, "`root`: the root, 0 to 3");
    for (int root = 0; root < 4; root++) {
      int it = root;
      Edge.answers(Scene.EMPTY, "root " + it + ", empty", -1, x -> x.root(it));
      Edge.answers(Scene.SMALL, "root " + it, new int[] {0, -1, 1, -1}[it], x -> x.root(it));
    }
  }

  private static void rootRefusesOtherNumbers() {
    Edge.says(15, "Throws `IllegalArgumentException` if there is no such root");
    for (int root : new int[] {-1, 4, -2, 5, Edge.LEAST, Edge.GREATEST}) {
      Edge.refuses(Scene.EMPTY, "root " + root + ", empty", Edge.ARGUMENT, x -> x.root(root));
      Edge.refuses(Scene.SMALL, "root " + root, Edge.ARGUMENT, x -> x.root(root));
      Edge.refuses(Scene.FULL, "root " + root + ", full", Edge.ARGUMENT, x -> x.root(root));
    }
  }

  // ---- promises 16 and 17

  private static void commitRefusesOtherNumbers() {
    Edge.says(16, NO_TRANSACTION);
    refusesNumbers((x, t) -> x.commit(t));
    Edge.answers(Scene.FULL, "0", 1, x -> x.commit(0));
    Edge.answers(Scene.FULL, "1", 1, x -> x.commit(1));
    Edge.answers(Scene.FULL, "2", 2, x -> x.commit(2));
  }

  private static void commitRefusesWhatIsNotOpen() {
    Edge.says(16, NOT_OPEN);
    refusesClosed((x, t) -> x.commit(t));
    Edge.refuses(Scene.EMPTY, "empty", Edge.STATE, x -> x.commit(0));
  }

  private static void abortRefusesOtherNumbers() {
    Edge.says(17, NO_TRANSACTION);
    refusesNumbers((x, t) -> x.abort(t));
    Edge.answers(Scene.FULL, "0", 1, x -> x.abort(0));
    Edge.answers(Scene.FULL, "1", 1, x -> x.abort(1));
    Edge.answers(Scene.FULL, "2", 2, x -> x.abort(2));
  }

  private static void abortRefusesWhatIsNotOpen() {
    Edge.says(17, NOT_OPEN);
    refusesClosed((x, t) -> x.abort(t));
    Edge.refuses(Scene.EMPTY, "empty", Edge.STATE, x -> x.abort(0));
  }

  // ---- promises 18 and 19

  private static void crashTakesTransactionsAndNone() {
    Edge.says(18, "`transaction`: the transaction that commits just then, or -1 for none");
    Edge.answers(Scene.EMPTY, "none, empty", 0, x -> x.crash(-1, 0));
    Edge.answers(Scene.SMALL, "none", 2, x -> x.crash(-1, 0));
    Edge.answers(Scene.SMALL, "none, with steps", 2, x -> x.crash(-1, 99));
    Edge.answers(Scene.FULL, "none, full", 3, x -> x.crash(-1, 0));
    for (int transaction = 0; transaction < 3; transaction++) {
      int it = transaction;
      Edge.answers(Scene.FULL, "transaction " + it, 2, x -> x.crash(it, 3));
    }
  }

  private static void crashRefusesTransactionsThatAreNotThere() {
    Edge.says(18, "Throws `IllegalArgumentException` if there is no such transaction, and it is not -1, or the number "
        + "of steps is less than 0", "if there is no such transaction, and it is not -1");
    for (int transaction : new int[] {-2, 3, Edge.LEAST, Edge.GREATEST}) {
      for (int steps : new int[] {0, 1, Edge.GREATEST}) {
        Edge.refuses(Scene.EMPTY, "empty, " + transaction, Edge.ARGUMENT, x -> x.crash(transaction, steps));
        Edge.refuses(Scene.SMALL, "transaction " + transaction, Edge.ARGUMENT, x -> x.crash(transaction, steps));
      }
      Edge.refuses(Scene.FULL, "full, " + transaction, Edge.ARGUMENT, x -> x.crash(transaction, 2));
    }
  }

  private static void crashRefusesLessThanNoSteps() {
    Edge.says(18, "Throws `IllegalArgumentException` if there is no such transaction, and it is not -1, or the number "
        + "of steps is less than 0", "or the number of steps is less than 0");
    for (int steps : new int[] {-1, -2, Edge.LEAST}) {
      for (int transaction = -1; transaction < 3; transaction++) {
        int it = transaction;
        Edge.refuses(Scene.SMALL, steps + " steps of " + it, Edge.ARGUMENT, x -> x.crash(it, steps));
      }
      Edge.refuses(Scene.EMPTY, steps + " steps, empty", Edge.ARGUMENT, x -> x.crash(-1, steps));
      Edge.refuses(Scene.FULL, steps + " steps, full", Edge.ARGUMENT, x -> x.crash(2, steps));
    }
    Edge.answers(Scene.SMALL, "no step", 2, x -> x.crash(0, 0));
    Edge.answers(Scene.SMALL, "as many as there can be", 1, x -> x.crash(0, Edge.GREATEST));
  }

  private static void crashRefusesWhatIsNotOpen() {
    Edge.says(18, NOT_OPEN);
    refusesClosed((x, t) -> x.crash(t, 0));
    refusesClosed((x, t) -> x.crash(t, Edge.GREATEST));
    Edge.refuses(Scene.EMPTY, "empty", Edge.STATE, x -> x.crash(0, 1));
  }

  private static void isOpenRefusesOtherNumbers() {
    Edge.says(19, NO_TRANSACTION);
    refusesNumbers((x, t) -> x.isOpen(t));
    for (int transaction = 0; transaction < 3; transaction++) {
      int it = transaction;
      Edge.answers(Scene.EMPTY, "empty: " + it, 0, x -> x.isOpen(it) ? 1 : 0);
      Edge.answers(Scene.SMALL, "small: " + it, it < 2 ? 1 : 0, x -> x.isOpen(it) ? 1 : 0);
      Edge.answers(Scene.FULL, "full: " + it, 1, x -> x.isOpen(it) ? 1 : 0);
    }
  }

  // ---- terms

  private static void threeCanBeOpen() {
    Edge.says(Edge.TERMS, "The transactions 0 to 2 can be open.");
    MarrowHeap x = opened();
    Edge.same("one", x.begin(1), 1);
    Edge.same("two", x.begin(2), 2);
    Edge.same("three", x.begin(0), 3);
    for (int transaction = 0; transaction < 3; transaction++) {
      int it = transaction;
      Edge.yes("open", x.isOpen(it));
      Edge.refusesHere(x, "once more", Edge.STATE, () -> x.begin(it));
    }
    Edge.refusesHere(x, "a fourth", Edge.ARGUMENT, () -> x.begin(3));
    x.commit(2);
    Edge.same("two are left, and three again", x.begin(2), 3);
  }

  private static void heldUntilTheEnd() {
    Edge.says(Edge.TERMS, "A transaction holds the objects that it made, that it locked and whose end it called, "
        + "until it has ended.");
    for (int way = 0; way < 4; way++) {
      MarrowHeap x = Scene.SMALL.fresh();
      x.commit(0);
      x.commit(1);
      x.begin(2);
      Edge.same("none", x.heldBy(2), 0);
      x.make(2, 2);
      Edge.same("made", x.heldBy(2), 1);
      x.lock(2, 1);
      Edge.same("locked", x.heldBy(2), 3);
      Edge.same("the end of it is called", x.callEnd(2), 3);
      Edge.same("held", x.heldBy(2), 4);
      x.lock(2, 1);
      Edge.same("not twice", x.heldBy(2), 4);
      endIn(x, way);
      Edge.same("ended in way " + way, x.heldBy(2), 0);
      x.begin(2);
      Edge.same("begun anew", x.heldBy(2), 0);
      Edge.fails("it does not hold it any more", Edge.STATE, () -> x.number(2, 1, 0));
    }
  }

  private static void endIn(MarrowHeap x, int way) {
    switch (way) {
      case 0:
        x.commit(2);
        break;
      case 1:
        x.abort(2);
        break;
      case 2:
        x.crash(2, 99);
        break;
      default:
        x.crash(-1, 0);
        break;
    }
  }

  private static void inHandInFourWays() {
    Edge.says(Edge.TERMS, "An object is in hand if it is reached, over references that are not weak, from a root, "
        + "from an object that an open transaction holds, or from one that waits for its end.");
    Edge.answers(Scene.SMALL, "all are in hand", 0, x -> x.unreached());
    Edge.answers(Scene.SMALL, "from a root", 0, x -> x.lock(0, 2));
    Edge.answers(ended(x -> x.commit(1), 1), "4 and 6 are not held any more, nor root 1's", 2, x -> x.unreached());
    Edge.answers(ended(x -> x.abort(1), 1), "4 is root 1's again, 6 is gone", 0, x -> x.unreached());
    Edge.answers(Scene.SMALL, "from one that waits", 1, x -> x.lock(0, 3));
    Edge.answers(Scene.of(() -> {
      MarrowHeap x = Scene.SMALL.fresh();
      x.callEnd(0);
      x.commit(0);
      return x;
    }), "it does not wait any more", 1, x -> x.unreached());
    Edge.answers(Scene.EMPTY, "none", 0, x -> x.unreached());
  }

  private static void abortBringsPagesBack() {
    Edge.says(Edge.TERMS, "When it is aborted, all pages that it changed are as they were when it changed them first");
    MarrowHeap x = Scene.chain(2);
    x.begin(0);
    x.lock(0, 7);
    x.setNumber(0, 0, 0, 5);
    x.commit(0);
    String before = state(x);
    x.addField(0, 'n');
    x.begin(0);
    x.lock(0, 7);
    x.setNumber(0, 0, 0, 6);
    x.setNumber(0, 0, 0, 7);
    x.link(0, 1, 1, 7);
    x.link(0, 2, 2, 0);
    x.number(0, 4, 3);
    x.make(0, 1);
    Edge.same("pages that it had changed", x.abort(0), 3);
    Edge.sameText("as before", state(x), before);
  }

  private static String state(MarrowHeap x) {
    StringBuilder text = new StringBuilder();
    for (int object = 0; object < 8; object++) {
      text.append(x.pageOf(object)).append(x.sizeOf(object)).append(' ');
    }
    for (int page = 0; page < x.pages(); page++) {
      text.append(x.usedOf(page)).append('/').append(x.forwardsIn(page)).append(' ');
    }
    x.begin(2);
    x.lock(2, 7);
    boolean whole = x.fieldsOf(0) == 3;
    for (int object = 0; object < 8; object++) {
      text.append(x.number(2, object, 0)).append(x.follow(2, object, 1)).append(x.follow(2, object, 2)).append(' ');
    }
    if (whole) {
      x.commit(2);
    } else {
      x.abort(2);
    }
    return text.toString();
  }

  private static void abortTakesPagesFromTheEnd() {
    Edge.says(Edge.TERMS, "those that it made are gone from the end on as far as they are empty");
    MarrowHeap x = opened(0, 1);
    fill(x, 0, 40);
    Edge.same("three pages", x.pages(), 3);
    Edge.same("aborted", x.abort(0), 3);
    Edge.same("all are gone", x.pages(), 0);
    x.begin(0);
    fill(x, 0, 16);
    fill(x, 1, 16);
    fill(x, 0, 16);
    Edge.same("0 made the first and the last", x.pages(), 3);
    x.abort(0);
    Edge.same("the last is gone", x.pages(), 2);
    Edge.same("the first stays, empty", x.usedOf(0), 0);
    Edge.same("the other's stays", x.usedOf(1), 16);
    x.abort(1);
    Edge.same("of the two that are empty, the one that it made is gone", x.pages(), 1);
    x.begin(1);
    fill(x, 1, 3);
    x.abort(1);
    Edge.same("a page that it did not make stays", x.pages(), 1);
    Edge.same("empty", x.usedOf(0), 0);
    x.begin(0);
    fill(x, 0, 1);
    x.abort(0);
    Edge.same("nor did 0, which made it the time before, make it this time", x.pages(), 1);
    MarrowHeap kept = opened(0);
    fill(kept, 0, 17);
    kept.commit(0);
    kept.collect(40);
    Edge.same("two empty pages", kept.pages() + kept.usedOf(0) + kept.usedOf(1), 2);
    kept.begin(0);
    kept.abort(0);
    Edge.same("made by 0, but it committed", kept.pages(), 2);
    kept.begin(0);
    fill(kept, 0, 40);
    Edge.same("the third is made now", kept.pages(), 3);
    kept.crash(-1, 0);
    Edge.same("it alone is gone", kept.pages(), 2);
  }

  private static void fill(MarrowHeap x, int transaction, int count) {
    for (int i = 0; i < count; i++) {
      x.make(transaction, 0);
    }
  }

  private static void abortBringsRootsBack() {
    Edge.says(Edge.TERMS, "all roots that it changed are as before");
    MarrowHeap x = Scene.SMALL.fresh();
    x.setRoot(0, 0, 2);
    x.setRoot(0, 0, -1);
    x.setRoot(0, 3, 1);
    x.abort(0);
    Edge.same("root 0", x.root(0), 0);
    Edge.same("root 1 is changed by 1 still", x.root(1), -1);
    Edge.same("root 2", x.root(2), -1);
    Edge.same("root 3", x.root(3), -1);
    x.abort(1);
    Edge.same("root 1", x.root(1), 4);
  }

  private static void abortTakesObjects() {
    Edge.says(Edge.TERMS, "and its objects are there no more");
    MarrowHeap x = Scene.SMALL.fresh();
    Edge.no("7 was undone", x.exists(7));
    x.abort(1);
    Edge.no("6 is gone", x.exists(6));
    Edge.yes("4 was only locked", x.exists(4));
    MarrowHeap full = Scene.FULL.fresh();
    full.abort(2);
    Edge.no("the last is gone", full.exists(99));
    Edge.no("the first of its pages", full.exists(84));
    Edge.yes("the last of another's", full.exists(83));
    Edge.same("pages", full.pages(), 10);
  }

  private static void numbersAreUsedOnce() {
    Edge.says(Edge.TERMS, "Numbers of objects are used once only.");
    MarrowHeap x = opened(0);
    Edge.same("first", x.make(0, 0), 0);
    x.abort(0);
    x.begin(0);
    Edge.same("behind an abort", x.make(0, 0), 1);
    x.crash(-1, 0);
    x.begin(0);
    Edge.same("behind a crash", x.make(0, 0), 2);
    x.commit(0);
    x.collect(9);
    Edge.no("freed", x.exists(2));
    x.begin(0);
    Edge.same("behind being freed", x.make(0, 0), 3);
    Edge.refusesHere(x, "a refused call uses none", Edge.INDEX, () -> x.make(0, 1));
    Edge.same("the next", x.make(0, 0), 4);
  }

  private static void coloursAndEndsAreNotUndone() {
    Edge.says(Edge.TERMS, "What it did to the colours of the collector, and ends that it called, are not undone; "
        + "memory stays, but for pages that are gone.");
    MarrowHeap x = Scene.SMALL.fresh();
    x.begin(2);
    x.callEnd(2);
    x.make(2, 2);
    Edge.same("its own page", x.pages(), 3);
    int faults = x.faults();
    x.abort(2);
    Edge.yes("ended", x.isEnded(3));
    Edge.same("waits no more", x.ends(), 0);
    Edge.yes("memory stays", x.isInMemory(0) && x.isInMemory(1));
    Edge.same("its page is gone", x.pages(), 2);
    x.begin(2);
    x.make(2, 2);
    Edge.same("and was in memory no more", x.faults(), faults + 1);
    MarrowHeap y = Scene.chain(1);
    y.collect(1);
    y.begin(0);
    y.lock(0, 3);
    y.setRoot(0, 1, 0);
    Edge.same("grey by a root", y.colourOf(0), 'g');
    y.link(0, 3, 1, 1);
    Edge.same("grey by a reference", y.colourOf(1), 'g');
    y.abort(0);
    Edge.same("still grey", y.colourOf(0), 'g');
    Edge.same("this too", y.colourOf(1), 'g');
  }

  private static void crashUndoesByRisingNumbers() {
    Edge.says(Edge.TERMS, "open transactions are undone as by abort(), by rising numbers");
    int[][] orders = {{0, 1, 2}, {0, 2, 1}, {1, 0, 2}, {1, 2, 0}, {2, 0, 1}, {2, 1, 0}};
    for (int[] order : orders) {
      MarrowHeap x = opened(0, 1, 2);
      for (int transaction : order) {
        fill(x, transaction, 16);
      }
      Edge.same("undone", x.crash(-1, 0), 3);
      Edge.same("pages left", x.pages(), pagesLeft(order));
    }
    Edge.same("made in rising order, the last is gone alone", pagesLeft(orders[0]), 2);
    Edge.same("made in falling order, all are gone", pagesLeft(orders[5]), 0);
  }

  /** Page i was made by the transaction makers[i]; they are aborted by rising numbers. */
  private static int pagesLeft(int[] makers) {
    int pages = 3;
    for (int transaction = 0; transaction < 3; transaction++) {
      if (pages > 0 && makers[pages - 1] == transaction) {
        pages--;
      }
    }
    return pages;
  }

  private static void crashEmptiesMemory() {
    Edge.says(Edge.TERMS, "and no page is in memory");
    MarrowHeap x = Scene.FULL.fresh();
    for (int transaction = 0; transaction < 3; transaction++) {
      x.commit(transaction);
    }
    Edge.yes("in memory", x.isInMemory(11));
    x.crash(-1, 0);
    for (int page = 0; page < 12; page++) {
      Edge.no("page " + page, x.isInMemory(page));
    }
    MarrowHeap y = Scene.SMALL.fresh();
    y.crash(1, 2);
    Edge.same("committed", y.pages(), 2);
    Edge.no("nor then", y.isInMemory(0) || y.isInMemory(1));
  }

  private static void crashCountsSteps() {
    Edge.says(Edge.TERMS, "A transaction that commits just then makes a step for each page that it changed, and then "
        + "one more; if as many steps are done, it has committed.");
    for (int changed = 0; changed <= 4; changed++) {
      int count = changed;
      Scene scene = Scene.of(() -> Scene.chain(4, count));
      for (int steps : new int[] {0, count - 1, count, count + 1, count + 2, Edge.GREATEST}) {
        if (steps >= 0) {
          boolean kept = steps > count;
          MarrowHeap x = Edge.answers(scene, count + " pages, " + steps + " steps", kept ? 0 : 1,
              y -> y.crash(0, steps));
          Edge.no("open", x.isOpen(0));
          x.begin(0);
          x.lock(0, 15);
          for (int page = 0; page < count; page++) {
            Edge.same("kept", x.number(0, 4 * page, 0), kept ? page + 1 : 0);
          }
        }
      }
    }
  }
}
