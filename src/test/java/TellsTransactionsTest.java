/** What the promises 6 to 19 tell, sentence by sentence: what a call does, what an argument is, what is answered. */
public final class TellsTransactionsTest {
  public static void main(String[] args) {
    beginBegins();
    makeMakes();
    makeAnswers();
    lockLocks();
    lockTakesBoth();
    lockAnswers();
    heldByCounts();
    setNumberSets();
    setNumberTakesAll();
    numberReads();
    linkSets();
    linkTakesAll();
    followFollows();
    setRootSets();
    setRootTakesTransactions();
    rootTells();
    commitKeeps();
    abortUndoes();
    crashLetsAllCrash();
    crashTakesSteps();
    isOpenTells();
    Check.end("TellsTransactionsTest");
  }

  /** Kind 0: fields 0 'n', 1 'r', 2 'w', 3 'n', 4 'r'; kind 1: none. Transaction 0 made so many of kind 0. */
  private static MarrowHeap with(int objects) {
    return Scene.plain("nrwnr", objects);
  }

  /** Root 0 is 0 -> 1 -> 2, root 1 is 3; all are committed, the transactions 0 and 1 are open and hold nothing. */
  private static MarrowHeap chained() {
    MarrowHeap x = with(4);
    x.link(0, 0, 1, 1);
    x.link(0, 1, 4, 2);
    x.link(0, 2, 2, 3);
    x.setRoot(0, 0, 0);
    x.setRoot(0, 1, 3);
    x.commit(0);
    x.begin(0);
    x.begin(1);
    return x;
  }

  // ---- promises 6 to 9

  private static void beginBegins() {
    Edge.says(6, "Begins a transaction.");
    for (int transaction = 0; transaction < 3; transaction++) {
      MarrowHeap x = Scene.SMALL.fresh();
      x.crash(-1, 0);
      x.begin(transaction);
      for (int other = 0; other < 3; other++) {
        Edge.yes("it is open, and no other", x.isOpen(other) == (other == transaction));
      }
      Edge.same("it holds nothing yet", x.heldBy(transaction), 0);
      Edge.same("it has changed nothing yet", x.commit(transaction), 0);
    }
    Edge.says(6, "Returns how many are open then.");
    int[][] orders = {{0, 1, 2}, {2, 1, 0}, {1, 2, 0}};
    for (int[] order : orders) {
      MarrowHeap x = new MarrowHeap();
      for (int i = 0; i < 3; i++) {
        Edge.same("with this one", x.begin(order[i]), i + 1);
      }
      x.commit(order[1]);
      x.abort(order[0]);
      Edge.same("those that have ended do not count", x.begin(order[1]), 2);
    }
  }

  private static void makeMakes() {
    Edge.says(7, "Makes an object.");
    MarrowHeap x = with(0);
    for (int object = 0; object < 4; object++) {
      Edge.no("not yet", x.exists(object));
      x.make(0, 0);
      Edge.yes("there is one more", x.exists(object));
      Edge.no("one alone", x.exists(object + 1));
      Edge.same("its number is 0", x.number(0, object, 3), 0);
      Edge.same("it refers to none", x.follow(0, object, 1), -1);
      Edge.same("nor weakly", x.follow(0, object, 2), -1);
      Edge.no("its end was not called", x.isEnded(object));
    }
    Edge.says(7, "`transaction`: the transaction");
    x.begin(2);
    x.make(2, 1);
    Edge.same("2 holds it", x.heldBy(2), 1);
    Edge.same("0 holds its own", x.heldBy(0), 4);
    x.abort(2);
    Edge.no("undone with 2", x.exists(4));
    Edge.yes("not with it", x.exists(3));
    Edge.says(7, "`kind`: the kind");
    int small = x.make(0, 1);
    int great = x.make(0, 0);
    Edge.yes("of kind 1", x.isKind(small, 1) && !x.isKind(small, 0));
    Edge.yes("of kind 0", x.isKind(great, 0) && !x.isKind(great, 1));
    Edge.same("sizes", 10 * x.sizeOf(small) + x.sizeOf(great), 16);
  }

  private static void makeAnswers() {
    Edge.says(7, "Returns the number of the object.");
    MarrowHeap x = with(0);
    for (int object = 0; object < 12; object++) {
      x.begin(1);
      x.begin(2);
      int transaction = object % 3;
      Edge.same("one row of numbers for all", x.make(transaction, object % 2), object);
      Edge.yes("by it the object is found", x.exists(object));
      if (object % 4 == 3) {
        x.abort(transaction);
        x.begin(transaction);
      }
      x.commit(1);
      x.commit(2);
    }
  }

  private static void lockLocks() {
    Edge.says(8, "Locks all that is reached, over references that are not weak, from an object, itself included.");
    int[] due = {3, 2, 1, 1};
    for (int object = 0; object < 4; object++) {
      MarrowHeap x = chained();
      x.lock(0, object);
      Edge.same("from " + object, x.heldBy(0), due[object]);
      for (int other = 0; other < 4; other++) {
        int it = other;
        boolean locked = other >= object && other < 3 || other == object;
        if (locked) {
          Edge.same("held: " + other, x.number(0, other, 0), 0);
          Edge.fails("by 0 alone", Edge.OPERATION, () -> x.lock(1, it));
        } else {
          Edge.fails("not held: " + other, Edge.STATE, () -> x.number(0, it, 0));
        }
      }
    }
    MarrowHeap ring = chained();
    ring.lock(0, 0);
    ring.link(0, 2, 1, 0);
    ring.commit(0);
    ring.begin(0);
    Edge.same("a ring", ring.lock(0, 1), 3);
    MarrowHeap cut = chained();
    cut.lock(0, 0);
    cut.link(0, 0, 1, -1);
    cut.setRoot(0, 2, 1);
    cut.commit(0);
    cut.begin(0);
    Edge.same("what is not referred to any more", cut.lock(0, 0), 1);
  }

  private static void lockTakesBoth() {
    Edge.says(8, "`transaction`: the transaction");
    MarrowHeap x = chained();
    x.lock(1, 1);
    Edge.same("1 holds them", x.heldBy(1), 2);
    Edge.same("0 none", x.heldBy(0), 0);
    Edge.says(8, "`object`: the object");
    MarrowHeap y = chained();
    y.lock(0, 3);
    Edge.same("3 alone", y.heldBy(0), 1);
    Edge.same("3", y.number(0, 3, 0), 0);
    y.lock(0, 2);
    Edge.same("2 with it", y.heldBy(0), 2);
  }

  private static void lockAnswers() {
    Edge.says(8, "Returns how many objects are locked by this that the transaction did not hold.");
    MarrowHeap x = chained();
    Edge.same("the last", x.lock(0, 2), 1);
    Edge.same("again", x.lock(0, 2), 0);
    Edge.same("all three, but it held one", x.lock(0, 0), 2);
    Edge.same("all held", x.lock(0, 1), 0);
    Edge.same("another", x.lock(0, 3), 1);
    Edge.same("one that it made", x.lock(0, x.make(0, 1)), 0);
  }

  private static void heldByCounts() {
    Edge.says(9, "Returns how many objects a transaction holds.");
    MarrowHeap x = chained();
    Edge.same("none", x.heldBy(0), 0);
    x.lock(0, 1);
    Edge.same("locked", x.heldBy(0), 2);
    x.make(0, 1);
    Edge.same("made", x.heldBy(0), 3);
    x.link(0, 1, 4, -1);
    Edge.same("cut off, but held", x.heldBy(0), 3);
    Edge.says(9, "`transaction`: the transaction");
    x.lock(1, 3);
    Edge.same("of 1", x.heldBy(1), 1);
    Edge.same("of 0", x.heldBy(0), 3);
    Edge.same("of 2, which is not open", x.heldBy(2), 0);
    Edge.says(9, "Returns the number of objects.");
    x.commit(0);
    Edge.same("0 has ended", x.heldBy(0), 0);
    Edge.same("1 has not", x.heldBy(1), 1);
    x.abort(1);
    Edge.same("1 has ended", x.heldBy(1), 0);
  }

  // ---- promises 10 to 13

  private static void setNumberSets() {
    Edge.says(10, "Sets a number of an object.");
    MarrowHeap x = with(3);
    x.setNumber(0, 1, 3, 42);
    for (int object = 0; object < 3; object++) {
      Edge.same("field 0 of " + object, x.number(0, object, 0), 0);
      Edge.same("field 3 of " + object, x.number(0, object, 3), object == 1 ? 42 : 0);
      Edge.same("no reference of " + object, x.follow(0, object, 4), -1);
    }
    Edge.says(10, "Returns the number before.");
    int before = 0;
    for (int value : new int[] {5, -5, 9999, -9999, 0, 0, 1}) {
      Edge.same("before " + value, x.setNumber(0, 2, 0, value), before);
      before = value;
    }
    Edge.same("of another field", x.setNumber(0, 2, 3, 8), 0);
    Edge.same("of another object", x.setNumber(0, 0, 0, 8), 0);
    x.addField(0, 'n');
    Edge.same("of a field that it lacked", x.setNumber(0, 2, 5, 8), 0);
  }

  private static void setNumberTakesAll() {
    Edge.says(10, "`transaction`: the transaction");
    MarrowHeap x = chained();
    x.lock(0, 0);
    x.lock(1, 3);
    x.setNumber(0, 1, 0, 7);
    Edge.same("0 has changed a page", x.commit(0), 1);
    x.setNumber(1, 3, 0, 9);
    Edge.same("1 undoes its own", x.abort(1), 1);
    x.begin(0);
    x.lock(0, 0);
    x.lock(0, 3);
    Edge.same("kept", x.number(0, 1, 0), 7);
    Edge.same("undone", x.number(0, 3, 0), 0);
    Edge.says(10, "`object`: the object");
    x.setNumber(0, 2, 3, 4);
    Edge.same("of 2", x.number(0, 2, 3), 4);
    Edge.same("not of 3", x.number(0, 3, 3), 0);
    Edge.says(10, "`field`: the field");
    x.setNumber(0, 3, 3, 6);
    Edge.same("3", x.number(0, 3, 3), 6);
    Edge.same("not 0", x.number(0, 3, 0), 0);
  }

  private static void numberReads() {
    Edge.says(11, "Returns a number of an object.");
    MarrowHeap x = with(3);
    for (int object = 0; object < 3; object++) {
      x.setNumber(0, object, 0, 10 * object);
      x.setNumber(0, object, 3, 10 * object + 3);
    }
    for (int object = 0; object < 3; object++) {
      Edge.same("field 0", x.number(0, object, 0), 10 * object);
      Edge.same("field 3", x.number(0, object, 3), 10 * object + 3);
      Edge.same("as often as one asks", x.number(0, object, 3), 10 * object + 3);
    }
    Edge.says(11, "`transaction`: the transaction");
    x.setRoot(0, 0, 0);
    x.commit(0);
    x.begin(0);
    x.begin(1);
    x.lock(1, 0);
    Edge.same("the one that holds it", x.number(1, 0, 3), 3);
    Edge.fails("the other", Edge.STATE, () -> x.number(0, 0, 3));
    MarrowHeap y = with(2);
    y.setNumber(0, 0, 0, 5);
    y.setNumber(0, 1, 3, 6);
    Edge.says(11, "`object`: the object");
    Edge.same("of 0", y.number(0, 0, 0), 5);
    Edge.same("of 1", y.number(0, 1, 0), 0);
    Edge.says(11, "`field`: the field");
    Edge.same("0 of 1", y.number(0, 1, 0), 0);
    Edge.same("3 of 1", y.number(0, 1, 3), 6);
    Edge.says(11, "Returns the number.");
    y.setNumber(0, 1, 3, -9999);
    Edge.same("the least", y.number(0, 1, 3), -9999);
    y.setNumber(0, 1, 3, 9999);
    Edge.same("the greatest", y.number(0, 1, 3), 9999);
    y.addField(0, 'n');
    Edge.same("one that it lacked", y.number(0, 1, 5), 0);
    Edge.same("the others stay", y.number(0, 1, 3), 9999);
  }

  private static void linkSets() {
    Edge.says(12, "Sets a reference of an object, weak or not.");
    for (int field : new int[] {1, 2, 4}) {
      MarrowHeap x = with(3);
      x.link(0, 1, field, 2);
      for (int object = 0; object < 3; object++) {
        for (int other : new int[] {1, 2, 4}) {
          boolean set = object == 1 && other == field;
          Edge.same(other + " of " + object, x.follow(0, object, other), set ? 2 : -1);
        }
        Edge.same("no number", x.number(0, object, 0) + x.number(0, object, 3), 0);
      }
    }
    Edge.says(12, "Returns the object before, or -1.");
    for (int field : new int[] {1, 2, 4}) {
      MarrowHeap x = with(4);
      int before = -1;
      for (int target : new int[] {3, 0, 0, 1, -1, -1, 2}) {
        Edge.same("before " + target, x.link(0, 1, field, target), before);
        before = target;
      }
    }
    MarrowHeap lacks = with(2);
    lacks.addField(0, 'r');
    Edge.same("none where it lacked the field", lacks.link(0, 0, 5, 1), -1);
    Edge.same("set", lacks.follow(0, 0, 5), 1);
  }

  private static void linkTakesAll() {
    Edge.says(12, "`transaction`: the transaction");
    MarrowHeap x = chained();
    x.lock(0, 0);
    x.lock(1, 3);
    x.link(1, 3, 1, 3);
    Edge.fails("held by another", Edge.STATE, () -> x.link(0, 3, 1, -1));
    Edge.fails("its page is changed by another", Edge.OPERATION, () -> x.link(0, 2, 1, -1));
    Edge.same("a page of 1", x.commit(1), 1);
    Edge.same("none of 0", x.commit(0), 0);
    MarrowHeap y = with(3);
    Edge.says(12, "`object`: the object");
    y.link(0, 0, 1, 2);
    Edge.same("of 0", y.follow(0, 0, 1), 2);
    Edge.same("not of 2", y.follow(0, 2, 1), -1);
    Edge.says(12, "`field`: the field");
    y.link(0, 1, 4, 0);
    Edge.same("4", y.follow(0, 1, 4), 0);
    Edge.same("not 1", y.follow(0, 1, 1), -1);
  }

  private static void followFollows() {
    Edge.says(13, "Returns to which object a reference refers, weak or not.");
    MarrowHeap x = with(4);
    x.link(0, 0, 1, 1);
    x.link(0, 0, 2, 2);
    x.link(0, 0, 4, 0);
    Edge.same("one", x.follow(0, 0, 1), 1);
    Edge.same("a weak one", x.follow(0, 0, 2), 2);
    Edge.same("to itself", x.follow(0, 0, 4), 0);
    Edge.says(13, "`transaction`: the transaction");
    x.setRoot(0, 0, 0);
    x.commit(0);
    x.begin(0);
    x.begin(1);
    x.lock(1, 0);
    Edge.same("the one that holds it", x.follow(1, 0, 1), 1);
    Edge.fails("the other", Edge.STATE, () -> x.follow(0, 0, 1));
    Edge.says(13, "`object`: the object");
    Edge.same("of 0", x.follow(1, 0, 1), 1);
    Edge.same("of 1", x.follow(1, 1, 1), -1);
    Edge.says(13, "`field`: the field");
    Edge.same("2", x.follow(1, 0, 2), 2);
    Edge.same("4", x.follow(1, 0, 4), 0);
    Edge.says(13, "Returns the object, or -1.");
    x.link(1, 0, 1, 0);
    Edge.same("the first object", x.follow(1, 0, 1), 0);
    x.link(1, 0, 1, -1);
    Edge.same("none", x.follow(1, 0, 1), -1);
    Edge.same("a weak one to an object that the transaction does not hold", x.follow(1, 0, 2), 2);
  }

  // ---- promises 14 and 15

  private static void setRootSets() {
    Edge.says(14, "Sets a root.");
    for (int root = 0; root < 4; root++) {
      MarrowHeap x = with(3);
      x.setRoot(0, root, 2);
      for (int other = 0; other < 4; other++) {
        Edge.same("root " + other, x.root(other), other == root ? 2 : -1);
      }
      Edge.yes("reached", x.isReached(2));
      Edge.no("not reached", x.isReached(1));
    }
    Edge.says(14, "Returns the object before, or -1.");
    MarrowHeap x = with(3);
    int before = -1;
    for (int object : new int[] {2, 0, 0, -1, -1, 1}) {
      Edge.same("before " + object, x.setRoot(0, 3, object), before);
      before = object;
    }
    Edge.same("of another root", x.setRoot(0, 2, 2), -1);
    x.abort(0);
    x.begin(0);
    x.make(0, 0);
    Edge.same("none where it was undone", x.setRoot(0, 3, 3), -1);
  }

  private static void setRootTakesTransactions() {
    Edge.says(14, "`transaction`: the transaction");
    MarrowHeap x = chained();
    x.setRoot(0, 0, -1);
    x.setRoot(1, 1, -1);
    Edge.fails("0 has changed it", Edge.OPERATION, () -> x.setRoot(1, 0, -1));
    Edge.fails("1 has changed it", Edge.OPERATION, () -> x.setRoot(0, 1, -1));
    x.abort(0);
    Edge.same("as before", x.root(0), 0);
    x.commit(1);
    Edge.same("kept", x.root(1), -1);
  }

  private static void rootTells() {
    Edge.says(15, "Returns the object of a root.");
    MarrowHeap x = with(4);
    for (int root = 0; root < 4; root++) {
      x.setRoot(0, root, 3 - root);
    }
    for (int root = 0; root < 4; root++) {
      Edge.same("root " + root, x.root(root), 3 - root);
    }
    Edge.says(15, "Returns the object, or -1.");
    x.setRoot(0, 1, -1);
    Edge.same("none", x.root(1), -1);
    Edge.same("the first object", x.root(3), 0);
    x.commit(0);
    Edge.same("kept", x.root(2), 1);
    x.begin(1);
    x.setRoot(1, 2, -1);
    Edge.same("also by a transaction that is open", x.root(2), -1);
    x.crash(-1, 0);
    Edge.same("undone", x.root(2), 1);
  }

  // ---- promises 16 to 19

  private static void commitKeeps() {
    Edge.says(16, "Commits a transaction.");
    MarrowHeap x = chained();
    x.lock(0, 0);
    x.setNumber(0, 1, 0, 5);
    x.link(0, 0, 2, 1);
    x.setRoot(0, 3, 2);
    x.make(0, 1);
    x.commit(0);
    Edge.no("it is not open any more", x.isOpen(0));
    Edge.same("it holds nothing", x.heldBy(0), 0);
    x.crash(-1, 0);
    x.begin(0);
    x.lock(0, 0);
    Edge.same("a number stays", x.number(0, 1, 0), 5);
    Edge.same("a reference", x.follow(0, 0, 2), 1);
    Edge.same("a root", x.root(3), 2);
    Edge.yes("an object", x.exists(4));
    Edge.says(16, "`transaction`: the transaction");
    MarrowHeap y = chained();
    y.lock(1, 3);
    y.setNumber(1, 3, 0, 5);
    Edge.same("0 has changed nothing", y.commit(0), 0);
    Edge.yes("1 stays open", y.isOpen(1));
    Edge.same("1 has", y.commit(1), 1);
    Edge.says(16, "Returns how many pages it has changed.");
    for (int pages = 0; pages <= 4; pages++) {
      MarrowHeap z = Scene.chain(5, pages);
      Edge.same("pages", z.commit(0), pages);
    }
  }

  private static void abortUndoes() {
    Edge.says(17, "Aborts a transaction: its changes are undone.");
    MarrowHeap x = chained();
    x.lock(0, 0);
    x.setNumber(0, 1, 0, 5);
    x.link(0, 0, 2, 1);
    x.link(0, 0, 1, -1);
    x.setRoot(0, 3, 2);
    x.setRoot(0, 0, -1);
    x.make(0, 1);
    x.abort(0);
    Edge.no("it is not open any more", x.isOpen(0));
    Edge.same("it holds nothing", x.heldBy(0), 0);
    x.begin(0);
    x.lock(0, 0);
    Edge.same("a number", x.number(0, 1, 0), 0);
    Edge.same("a reference", x.follow(0, 0, 2), -1);
    Edge.same("another", x.follow(0, 0, 1), 1);
    Edge.same("a root", x.root(3), -1);
    Edge.same("another root", x.root(0), 0);
    Edge.no("an object", x.exists(4));
    Edge.says(17, "`transaction`: the transaction");
    MarrowHeap y = chained();
    y.lock(1, 3);
    y.setNumber(1, 3, 0, 5);
    y.setRoot(0, 0, -1);
    y.abort(0);
    Edge.same("undone with 0", y.root(0), 0);
    Edge.same("1 is open, and its number stays", y.number(1, 3, 0), 5);
    Edge.says(17, "Returns how many pages it had changed.");
    for (int pages = 0; pages <= 4; pages++) {
      MarrowHeap z = Scene.chain(5, pages);
      Edge.same("pages", z.abort(0), pages);
    }
    MarrowHeap made = with(6);
    Edge.same("also those that are gone", made.abort(0), 3);
    Edge.same("pages", made.pages(), 0);
  }

  private static void crashLetsAllCrash() {
    Edge.says(18, "Lets all crash.");
    MarrowHeap x = Scene.SMALL.fresh();
    x.crash(-1, 0);
    for (int transaction = 0; transaction < 3; transaction++) {
      Edge.no("open: " + transaction, x.isOpen(transaction));
      Edge.same("held by " + transaction, x.heldBy(transaction), 0);
    }
    Edge.says(Edge.TERMS, "When all crashes, open transactions are undone as by abort(), by rising numbers, and no page "
        + "is in memory.");
    Edge.no("made by 1", x.exists(6));
    Edge.same("set by 0", x.root(2), -1);
    Edge.same("set by 1", x.root(1), 4);
    Edge.no("in memory", x.isInMemory(0) || x.isInMemory(1));
    for (Scene scene : new Scene[] {Scene.SMALL, Scene.FULL}) {
      MarrowHeap crashed = scene.fresh();
      crashed.crash(-1, 0);
      MarrowHeap aborted = scene.fresh();
      for (int transaction = 0; transaction < 3; transaction++) {
        if (aborted.isOpen(transaction)) {
          aborted.abort(transaction);
        }
      }
      aborted.crash(-1, 0);
      Edge.sameText("as by abort", Look.at(crashed), Look.at(aborted));
    }
    Edge.says(18, "Returns how many open transactions are undone.");
    for (int open = 0; open < 8; open++) {
      int it = open;
      Scene scene = Scene.of(() -> {
        MarrowHeap y = new MarrowHeap();
        for (int transaction = 0; transaction < 3; transaction++) {
          if ((it >> transaction & 1) == 1) {
            y.begin(transaction);
          }
        }
        return y;
      });
      Edge.answers(scene, "open: " + it, Integer.bitCount(it), y -> y.crash(-1, 0));
      for (int transaction = 0; transaction < 3; transaction++) {
        int one = transaction;
        if ((it >> transaction & 1) == 1) {
          Edge.answers(scene, "it has not committed", Integer.bitCount(it), y -> y.crash(one, 0));
          Edge.answers(scene, "it has", Integer.bitCount(it) - 1, y -> y.crash(one, 1));
        }
      }
    }
  }

  private static void crashTakesSteps() {
    Edge.says(18, "`steps`: how many steps of its commit are done");
    for (int pages = 0; pages <= 4; pages++) {
      for (int steps = 0; steps <= 6; steps++) {
        MarrowHeap x = Scene.chain(5, pages);
        x.setRoot(0, 3, 7);
        boolean committed = steps >= pages + 1;
        Edge.same(steps + " steps for " + pages + " pages", x.crash(0, steps), committed ? 0 : 1);
        Edge.same("its root", x.root(3), committed ? 7 : -1);
        x.begin(1);
        x.lock(1, 19);
        for (int page = 0; page < 4; page++) {
          boolean kept = committed && page < pages;
          Edge.same("its number in page " + page, x.number(1, 4 * page, 0), kept ? page + 1 : 0);
        }
      }
    }
  }

  private static void isOpenTells() {
    Edge.says(19, "Returns whether a transaction is open.");
    for (int end = 0; end < 4; end++) {
      MarrowHeap x = new MarrowHeap();
      Edge.no("not yet", x.isOpen(1));
      x.begin(1);
      Edge.yes("begun", x.isOpen(1));
      if (end == 0) {
        x.commit(1);
      } else if (end == 1) {
        x.abort(1);
      } else {
        x.crash(end == 2 ? -1 : 1, 1);
      }
      Edge.no("ended", x.isOpen(1));
      x.begin(1);
      Edge.yes("begun again", x.isOpen(1));
    }
    Edge.says(19, "`transaction`: the transaction");
    MarrowHeap x = new MarrowHeap();
    x.begin(2);
    Edge.no("0", x.isOpen(0));
    Edge.yes("2", x.isOpen(2));
    Edge.says(19, "Returns whether it is.");
    x.begin(0);
    Edge.yes("0 now", x.isOpen(0));
    x.commit(2);
    Edge.no("2 not any more", x.isOpen(2));
  }
}
