import java.util.Arrays;
import java.util.NoSuchElementException;

/**
 * A database of objects in pages, with transactions, a collector that works in steps, and indexes by
 * paths. DOC.md says what each call promises; the comments here say only why it is done in this way.
 */
public final class MarrowHeap {
  private static final int NONE = -1;
  private static final int MOST_KINDS = 8;
  private static final int MOST_FIELDS = 20;
  private static final int MOST_WIDTH = 6;
  private static final int MOST_OBJECTS = 100;
  private static final int MOST_PAGES = 12;
  private static final int UNITS = 16;
  private static final int FRAMES = 4;
  private static final int TRANSACTIONS = 3;
  private static final int ROOTS = 4;
  private static final int MOST_INDEXES = 3;
  private static final int PATH = 3;
  private static final int MOST_VALUE = 9999;
  private static final int MOST_STEPS = 99;

  private static final char NUMBER = 'n';
  private static final char STRONG = 'r';
  private static final char WEAK = 'w';
  private static final char STRONG_OR_WEAK = '*';
  private static final char NO_TYPE = ' ';

  private final Kinds kinds = new Kinds();
  private final Store store = new Store(kinds);
  private final Memory memory = new Memory(store);
  private final Transactions transactions = new Transactions();
  private final Ends line = new Ends();
  private final Reach reach = new Reach(store, transactions, line);
  private final Collector collector = new Collector(store, transactions, line, reach);
  private final Indexes indexes = new Indexes(store);
  private long fieldChanges;
  private int forwardsTaken;

  /** Creates a database without kinds, pages and objects. */
  public MarrowHeap() {
  }

  // ---- kinds

  /** Adds a kind. */
  public int addKind(int parent, boolean hasEnd) throws IllegalArgumentException, IllegalStateException {
    if (parent != NONE && !kinds.has(parent)) {
      throw new IllegalArgumentException("there is no such parent");
    }
    if (kinds.count >= MOST_KINDS) {
      throw new IllegalStateException("there are 8 kinds");
    }
    return kinds.append(parent, hasEnd);
  }

  /** Adds a field to a kind. */
  public int addField(int kind, char type)
      throws IndexOutOfBoundsException, IllegalArgumentException, IllegalStateException {
    checkKind(kind);
    if (type != NUMBER && type != STRONG && type != WEAK) {
      throw new IllegalArgumentException("there is no such type");
    }
    if (kinds.fields >= MOST_FIELDS || !kinds.canWiden(kind)) {
      throw new IllegalStateException("there are too many fields");
    }
    return kinds.widen(kind, type);
  }

  /** Returns how many fields a kind has. */
  public int fieldsOf(int kind) throws IndexOutOfBoundsException {
    checkKind(kind);
    return kinds.widthOf(kind);
  }

  /** Returns whether an object is of a kind, or of one below it. */
  public boolean isKind(int object, int kind) throws IndexOutOfBoundsException {
    checkObject(object);
    checkKind(kind);
    return kinds.isBelow(store.kindOf(object), kind);
  }

  // ---- transactions

  /** Begins a transaction. */
  public int begin(int transaction) throws IllegalArgumentException, IllegalStateException {
    checkTransaction(transaction);
    if (transactions.isRunning(transaction)) {
      throw new IllegalStateException("the transaction is open");
    }
    transactions.start(transaction);
    return transactions.running();
  }

  /** Makes an object. */
  public int make(int transaction, int kind)
      throws IllegalArgumentException, IndexOutOfBoundsException, IllegalStateException,
          UnsupportedOperationException {
    checkTransaction(transaction);
    checkKind(kind);
    checkOpen(transaction);
    if (store.made >= MOST_OBJECTS) {
      throw new IllegalStateException("100 objects were made");
    }
    int page = store.pageWithRoom(transaction, 1 + kinds.widthOf(kind));
    if (page == NONE || !memory.canHold(page, page)) {
      throw new UnsupportedOperationException("there is no room, or memory is full");
    }
    store.change(transaction, page);
    memory.use(page);
    int object = store.create(transaction, kind, page);
    transactions.hold(transaction, object);
    collector.paintNew(object);
    indexes.refresh();
    return object;
  }

  /** Locks all that is reached from an object. */
  public int lock(int transaction, int object)
      throws IllegalArgumentException, IndexOutOfBoundsException, IllegalStateException,
          NoSuchElementException, UnsupportedOperationException {
    checkTransaction(transaction);
    checkObject(object);
    checkOpen(transaction);
    reach.fromHands();
    if (!reach.has(object)) {
      throw new NoSuchElementException("the object is not in hand");
    }
    reach.fromOne(object);
    if (!canHoldReached(transaction)) {
      throw new UnsupportedOperationException("another transaction holds one of the objects");
    }
    return holdReached(transaction);
  }

  /** Returns how many objects a transaction holds. */
  public int heldBy(int transaction) throws IllegalArgumentException {
    checkTransaction(transaction);
    return transactions.countHeld(transaction);
  }

  /** Sets a number of an object. */
  public int setNumber(int transaction, int object, int field, int value)
      throws IllegalArgumentException, IndexOutOfBoundsException, IllegalStateException,
          NoSuchElementException, UnsupportedOperationException {
    checkTransaction(transaction);
    if (value < -MOST_VALUE || value > MOST_VALUE) {
      throw new IllegalArgumentException("the value is out of range");
    }
    checkObject(object);
    checkHeld(transaction, object);
    checkField(object, field, true);
    meet(transaction, object, true);
    int slot = store.slotOf(object, field);
    int before = store.now.valueAt(object, slot);
    store.set(transaction, object, slot, value);
    fieldChanges++;
    indexes.refresh();
    return before;
  }

  /** Returns a number of an object. */
  public int number(int transaction, int object, int field)
      throws IllegalArgumentException, IndexOutOfBoundsException, IllegalStateException,
          NoSuchElementException, UnsupportedOperationException {
    checkTransaction(transaction);
    checkObject(object);
    checkHeld(transaction, object);
    checkField(object, field, true);
    meet(transaction, object, false);
    return store.now.valueAt(object, store.slotOf(object, field));
  }

  /** Sets a reference of an object, weak or not. */
  public int link(int transaction, int object, int field, int target)
      throws IllegalArgumentException, IndexOutOfBoundsException, IllegalStateException,
          NoSuchElementException, UnsupportedOperationException {
    checkTransaction(transaction);
    checkObject(object);
    checkObjectOrNone(target);
    checkHeld(transaction, object);
    checkHeldOrNone(transaction, target);
    checkField(object, field, false);
    meet(transaction, object, true);
    int slot = store.slotOf(object, field);
    int before = store.target(store.now, object, slot, STRONG_OR_WEAK);
    store.refer(transaction, object, slot, target);
    if (kinds.typeOf(field) == STRONG) {
      collector.paintTarget(target);
    }
    fieldChanges++;
    indexes.refresh();
    return before;
  }

  /** Returns to which object a reference refers, weak or not. */
  public int follow(int transaction, int object, int field)
      throws IllegalArgumentException, IndexOutOfBoundsException, IllegalStateException,
          NoSuchElementException, UnsupportedOperationException {
    checkTransaction(transaction);
    checkObject(object);
    checkHeld(transaction, object);
    checkField(object, field, false);
    meet(transaction, object, false);
    int slot = store.slotOf(object, field);
    if (store.strays(object, slot)) {
      forwardsTaken++;
    }
    return store.target(store.now, object, slot, STRONG_OR_WEAK);
  }

  /** Sets a root. */
  public int setRoot(int transaction, int root, int object)
      throws IllegalArgumentException, IndexOutOfBoundsException, IllegalStateException,
          UnsupportedOperationException {
    checkTransaction(transaction);
    checkRoot(root);
    checkObjectOrNone(object);
    checkOpen(transaction);
    checkHeldOrNone(transaction, object);
    if (!transactions.mayChangeRoot(transaction, root)) {
      throw new UnsupportedOperationException("another transaction has changed the root");
    }
    int before = transactions.rootNow(root);
    transactions.changeRoot(transaction, root, object);
    collector.paintTarget(object);
    return before;
  }

  /** Returns the object of a root. */
  public int root(int root) throws IllegalArgumentException {
    checkRoot(root);
    return transactions.rootNow(root);
  }

  /** Commits a transaction. */
  public int commit(int transaction) throws IllegalArgumentException, IllegalStateException {
    checkTransaction(transaction);
    checkOpen(transaction);
    return keep(transaction);
  }

  /** Aborts a transaction: its changes are undone. */
  public int abort(int transaction) throws IllegalArgumentException, IllegalStateException {
    checkTransaction(transaction);
    checkOpen(transaction);
    int changed = undo(transaction);
    indexes.refresh();
    return changed;
  }

  /** Lets all crash. */
  public int crash(int transaction, int steps) throws IllegalArgumentException, IllegalStateException {
    if (transaction != NONE) {
      checkTransaction(transaction);
    }
    if (steps < 0) {
      throw new IllegalArgumentException("the number of steps is less than 0");
    }
    if (transaction != NONE) {
      checkOpen(transaction);
      if (steps > store.countChanged(transaction)) {
        keep(transaction);
      }
    }
    int undone = undoAll();
    memory.drop(0);
    indexes.refresh();
    return undone;
  }

  /** Returns whether a transaction is open. */
  public boolean isOpen(int transaction) throws IllegalArgumentException {
    checkTransaction(transaction);
    return transactions.isRunning(transaction);
  }

  // ---- collector

  /** Lets the collector make steps, as long as it is not hindered. */
  public int collect(int steps) throws IllegalArgumentException {
    if (steps < 1 || steps > MOST_STEPS) {
      throw new IllegalArgumentException("the number of steps is out of range");
    }
    int done = 0;
    while (done < steps && collector.step()) {
      done++;
    }
    indexes.refresh();
    return done;
  }

  /** Returns the phase of the collector. */
  public char phase() {
    return collector.letter();
  }

  /** Returns the colour of an object. */
  public char colourOf(int object) throws IndexOutOfBoundsException {
    checkObject(object);
    return collector.paintOf(object);
  }

  /** Returns how many cycles the collector has ended. */
  public int cycles() {
    return collector.cyclesEnded;
  }

  /** Returns how many objects were freed. */
  public int freed() {
    return collector.objectsFreed;
  }

  /** Returns how many objects wait for their end. */
  public int ends() {
    return line.length;
  }

  /** Calls the end of the first object that waits for it. */
  public int callEnd(int transaction)
      throws IllegalArgumentException, IllegalStateException, NoSuchElementException,
          UnsupportedOperationException {
    checkTransaction(transaction);
    checkOpen(transaction);
    int object = line.first();
    if (object == NONE) {
      throw new NoSuchElementException("no object waits for its end");
    }
    if (!transactions.mayHold(transaction, object)) {
      throw new UnsupportedOperationException("another transaction holds the object");
    }
    line.callFirst();
    transactions.hold(transaction, object);
    return object;
  }

  /** Returns whether the end of an object was called. */
  public boolean isEnded(int object) throws IndexOutOfBoundsException {
    checkObject(object);
    return line.wasCalled(object);
  }

  /** Returns whether there is an object. */
  public boolean exists(int object) {
    return store.has(object);
  }

  // ---- pages and memory

  /** Returns the page of an object. */
  public int pageOf(int object) throws IndexOutOfBoundsException {
    checkObject(object);
    return store.now.pageAt(object);
  }

  /** Returns the size of an object. */
  public int sizeOf(int object) throws IndexOutOfBoundsException {
    checkObject(object);
    return store.size(object);
  }

  /** Returns whether an object has all fields of its kind. */
  public boolean isConverted(int object) throws IndexOutOfBoundsException {
    checkObject(object);
    return store.isWhole(object);
  }

  /** Returns how many pages there are. */
  public int pages() {
    return store.pageCount;
  }

  /** Returns how many units of a page are used. */
  public int usedOf(int page) throws IndexOutOfBoundsException {
    checkPage(page);
    return store.now.usedAt(page);
  }

  /** Returns how many forwards a page has. */
  public int forwardsIn(int page) throws IndexOutOfBoundsException {
    checkPage(page);
    return store.now.forwardsAt(page);
  }

  /** Returns whether a page is in memory. */
  public boolean isInMemory(int page) throws IndexOutOfBoundsException {
    checkPage(page);
    return memory.holds(page);
  }

  /** Returns how often a page was brought into memory. */
  public int faults() {
    return memory.brought;
  }

  /** Returns how often a reference was followed by way of a forward. */
  public int forwarded() {
    return forwardsTaken;
  }

  // ---- indexes

  /** Adds an index of the objects of a kind by a path. */
  public int addIndex(int kind, int first, int second, int third)
      throws IndexOutOfBoundsException, IllegalArgumentException, IllegalStateException {
    checkKind(kind);
    if (!isPath(first, second, third)) {
      throw new IllegalArgumentException("the path is wrong");
    }
    if (indexes.count >= MOST_INDEXES) {
      throw new IllegalStateException("there are 3 indexes");
    }
    int index = indexes.append(kind, first, second, third);
    indexes.refresh();
    return index;
  }

  /** Returns how many objects stand in an index with a value, as it is kept. */
  public int countOf(int index, int value) throws IndexOutOfBoundsException {
    checkIndex(index);
    return indexes.countKept(index, value);
  }

  /** Returns the same number, found by going through all objects. */
  public int countAnew(int index, int value) throws IndexOutOfBoundsException {
    checkIndex(index);
    return indexes.countFound(index, value);
  }

  // ---- figures

  /** Returns whether an object is reached from the roots now. */
  public boolean isReached(int object) throws IndexOutOfBoundsException {
    checkObject(object);
    reach.fromRoots();
    return reach.has(object);
  }

  /** Returns how many objects are not in hand now. */
  public int unreached() {
    reach.fromHands();
    return store.countThere() - reach.length;
  }

  /** Returns how many changes of objects there have been by setNumber and link. */
  public long changes() {
    return fieldChanges;
  }

  /** Returns the share of the units of all pages that are used. */
  public float usedShare() throws ArithmeticException {
    int units = UNITS * store.pageCount;
    if (units == 0) {
      throw new ArithmeticException("there are no pages");
    }
    return (float) store.sumOfUsed() / (float) units;
  }

  /** Returns the mean size of the objects that there are. */
  public double meanSize() throws ArithmeticException {
    int count = store.countThere();
    if (count == 0) {
      throw new ArithmeticException("there are no objects");
    }
    return (double) store.sumOfSizes() / (double) count;
  }

  /** Returns whether all is sound. */
  public boolean isSound() {
    return store.pagesAddUp() && handsAreSound() && indexes.areAsFound();
  }

  // ---- what the calls share

  private void checkKind(int kind) {
    if (!kinds.has(kind)) {
      throw new IndexOutOfBoundsException("there is no such kind");
    }
  }

  private void checkObject(int object) {
    if (!store.has(object)) {
      throw new IndexOutOfBoundsException("there is no such object");
    }
  }

  private void checkObjectOrNone(int object) {
    if (object != NONE) {
      checkObject(object);
    }
  }

  private void checkPage(int page) {
    if (!store.hasPage(page)) {
      throw new IndexOutOfBoundsException("there is no such page");
    }
  }

  private void checkIndex(int index) {
    if (!indexes.has(index)) {
      throw new IndexOutOfBoundsException("there is no such index");
    }
  }

  private void checkRoot(int root) {
    if (root < 0 || root >= ROOTS) {
      throw new IllegalArgumentException("there is no such root");
    }
  }

  private void checkTransaction(int transaction) {
    if (transaction < 0 || transaction >= TRANSACTIONS) {
      throw new IllegalArgumentException("there is no such transaction");
    }
  }

  private void checkOpen(int transaction) {
    if (!transactions.isRunning(transaction)) {
      throw new IllegalStateException("the transaction is not open");
    }
  }

  private void checkHeld(int transaction, int object) {
    checkOpen(transaction);
    if (!transactions.holds(transaction, object)) {
      throw new IllegalStateException("the transaction does not hold the object");
    }
  }

  private void checkHeldOrNone(int transaction, int object) {
    if (object != NONE) {
      checkHeld(transaction, object);
    }
  }

  private void checkField(int object, int field, boolean isNumber) {
    if (store.slotOf(object, field) == NONE || isNumber != (kinds.typeOf(field) == NUMBER)) {
      throw new NoSuchElementException("the object has no such field of this type");
    }
  }

  private boolean isPath(int first, int second, int third) {
    if (second == NONE) {
      return third == NONE && kinds.typeOf(first) == NUMBER;
    }
    if (kinds.typeOf(first) != STRONG) {
      return false;
    }
    if (third == NONE) {
      return kinds.typeOf(second) == NUMBER;
    }
    return kinds.typeOf(second) == STRONG && kinds.typeOf(third) == NUMBER;
  }

  private void meet(int transaction, int object, boolean changing) {
    if (!canMeet(transaction, object, changing)) {
      throw new UnsupportedOperationException("the page cannot be changed, or memory or pages are full");
    }
    int page = store.now.pageAt(object);
    memory.use(page);
    if (!store.isWhole(object)) {
      convert(transaction, object, page);
    }
  }

  /** Asked ahead of any change, so that a call that throws has changed nothing. */
  private boolean canMeet(int transaction, int object, boolean changing) {
    int page = store.now.pageAt(object);
    boolean whole = store.isWhole(object);
    if ((changing || !whole) && !store.mayChange(transaction, page)) {
      return false;
    }
    int next = page;
    if (!whole && !store.hasRoomToGrow(object)) {
      next = store.pageWithRoom(transaction, store.wholeSize(object));
    }
    return next != NONE && memory.canHold(page, next);
  }

  /** The page that is left counts as changed before the next one comes, so that it stays in memory. */
  private void convert(int transaction, int object, int page) {
    store.change(transaction, page);
    if (store.hasRoomToGrow(object)) {
      store.grow(object);
      return;
    }
    int next = store.pageWithRoom(transaction, store.wholeSize(object));
    store.change(transaction, next);
    memory.use(next);
    store.move(object, next);
  }

  private boolean canHoldReached(int transaction) {
    for (int object = 0; object < MOST_OBJECTS; object++) {
      if (reach.has(object) && !transactions.mayHold(transaction, object)) {
        return false;
      }
    }
    return true;
  }

  private int holdReached(int transaction) {
    int locked = 0;
    for (int object = 0; object < MOST_OBJECTS; object++) {
      if (reach.has(object) && !transactions.holds(transaction, object)) {
        transactions.hold(transaction, object);
        locked++;
      }
    }
    return locked;
  }

  private int keep(int transaction) {
    int changed = store.countChanged(transaction);
    store.settle(transaction);
    transactions.finish(transaction);
    return changed;
  }

  private int undo(int transaction) {
    int changed = store.countChanged(transaction);
    store.restore(transaction);
    store.settle(transaction);
    memory.drop(store.pageCount);
    transactions.restoreRoots(transaction);
    transactions.finish(transaction);
    return changed;
  }

  private int undoAll() {
    int undone = 0;
    for (int transaction = 0; transaction < TRANSACTIONS; transaction++) {
      if (transactions.isRunning(transaction)) {
        undo(transaction);
        undone++;
      }
    }
    return undone;
  }

  private boolean handsAreSound() {
    reach.fromHands();
    boolean marked = collector.hasMarked();
    for (int object = 0; object < MOST_OBJECTS; object++) {
      if (reach.has(object) && (store.dangles(object) || marked && collector.isWhite(object))) {
        return false;
      }
    }
    return true;
  }

  /**
   * The kinds and their fields. The row of a kind grows at its end only, also by the fields of the kinds
   * above, so the fields that an object has are always the first ones of the row of its kind.
   */
  private static final class Kinds {
    int count;
    int fields;
    private final int[] parent = new int[MOST_KINDS];
    private final boolean[] hasEnd = new boolean[MOST_KINDS];
    private final int[] width = new int[MOST_KINDS];
    private final int[][] row = new int[MOST_KINDS][MOST_WIDTH];
    private final char[] type = new char[MOST_FIELDS];

    boolean has(int kind) {
      return kind >= 0 && kind < count;
    }

    int append(int above, boolean withEnd) {
      int kind = count;
      if (kind >= MOST_KINDS) {
        return NONE;
      }
      parent[kind] = above;
      hasEnd[kind] = withEnd;
      width[kind] = widthOf(above);
      if (has(above)) {
        System.arraycopy(row[above], 0, row[kind], 0, MOST_WIDTH);
      }
      count++;
      return kind;
    }

    boolean canWiden(int kind) {
      for (int other = 0; other < count; other++) {
        if (isBelow(other, kind) && width[other] >= MOST_WIDTH) {
          return false;
        }
      }
      return true;
    }

    int widen(int kind, char newType) {
      int field = fields;
      if (field >= MOST_FIELDS) {
        return NONE;
      }
      type[field] = newType;
      fields++;
      for (int other = 0; other < count; other++) {
        if (isBelow(other, kind) && width[other] < MOST_WIDTH) {
          row[other][width[other]] = field;
          width[other]++;
        }
      }
      return field;
    }

    int widthOf(int kind) {
      return has(kind) ? width[kind] : 0;
    }

    boolean isBelow(int kind, int top) {
      int at = kind;
      for (int level = 0; level < MOST_KINDS && has(at); level++) {
        if (at == top) {
          return true;
        }
        at = parent[at];
      }
      return false;
    }

    boolean mustEnd(int kind) {
      int at = kind;
      for (int level = 0; level < MOST_KINDS && has(at); level++) {
        if (hasEnd[at]) {
          return true;
        }
        at = parent[at];
      }
      return false;
    }

    int slotOf(int kind, int field) {
      int wide = widthOf(kind);
      for (int slot = 0; slot < wide; slot++) {
        if (row[kind][slot] == field) {
          return slot;
        }
      }
      return NONE;
    }

    char typeOf(int field) {
      return field >= 0 && field < fields ? type[field] : NO_TYPE;
    }

    char typeAt(int kind, int slot) {
      if (kind < 0 || kind >= count || slot < 0 || slot >= width[kind]) {
        return NO_TYPE;
      }
      int field = row[kind][slot];
      return field >= 0 && field < fields ? type[field] : NO_TYPE;
    }
  }

  /** What pages hold: once as it is now, and once as an abort brings it back. */
  private static final class Image {
    private final int[] page = new int[MOST_OBJECTS];
    private final int[] had = new int[MOST_OBJECTS];
    private final int[][] value = new int[MOST_OBJECTS][MOST_WIDTH];
    private final int[][] known = new int[MOST_OBJECTS][MOST_WIDTH];
    private final int[] used = new int[MOST_PAGES];
    private final int[] forwards = new int[MOST_PAGES];

    private static boolean isObject(int object) {
      return object >= 0 && object < MOST_OBJECTS;
    }

    private static boolean isPage(int page) {
      return page >= 0 && page < MOST_PAGES;
    }

    private static boolean isSlot(int object, int slot) {
      return object >= 0 && object < MOST_OBJECTS && slot >= 0 && slot < MOST_WIDTH;
    }

    void copyObject(Image from, int object) {
      if (isObject(object)) {
        page[object] = from.page[object];
        had[object] = from.had[object];
        System.arraycopy(from.value[object], 0, value[object], 0, MOST_WIDTH);
        System.arraycopy(from.known[object], 0, known[object], 0, MOST_WIDTH);
      }
    }

    void copyPage(Image from, int number) {
      if (isPage(number)) {
        used[number] = from.used[number];
        forwards[number] = from.forwards[number];
      }
    }

    int pageAt(int object) {
      return isObject(object) ? page[object] : NONE;
    }

    int hadAt(int object) {
      return isObject(object) ? had[object] : 0;
    }

    int valueAt(int object, int slot) {
      return isSlot(object, slot) ? value[object][slot] : 0;
    }

    /** The value of a reference, which refers to none as long as the object lacks it. */
    int pointerAt(int object, int slot) {
      boolean there = object >= 0 && object < MOST_OBJECTS && slot >= 0 && slot < MOST_WIDTH;
      return there && slot < had[object] ? value[object][slot] : NONE;
    }

    int knownAt(int object, int slot) {
      return isSlot(object, slot) ? known[object][slot] : NONE;
    }

    int usedAt(int number) {
      return isPage(number) ? used[number] : 0;
    }

    int forwardsAt(int number) {
      return isPage(number) ? forwards[number] : 0;
    }

    void put(int object, int number) {
      if (isObject(object)) {
        page[object] = number;
      }
    }

    void widenTo(int object, int fields) {
      if (isObject(object)) {
        had[object] = fields;
      }
    }

    void write(int object, int slot, int newValue, int newKnown) {
      if (isSlot(object, slot)) {
        value[object][slot] = newValue;
        known[object][slot] = newKnown;
      }
    }

    void addUnits(int number, int units) {
      if (isPage(number)) {
        used[number] += units;
      }
    }

    void addForward(int number) {
      if (isPage(number)) {
        used[number]++;
        forwards[number]++;
      }
    }

    void dropForwards(int number) {
      if (isPage(number)) {
        used[number] -= forwards[number];
        forwards[number] = 0;
      }
    }
  }

  /**
   * The objects and their pages. A page can be changed by one open transaction at a time, so one image
   * of what was before is enough for all of them, and an object stands in it at most once.
   */
  private static final class Store {
    final Kinds kinds;
    final Image now = new Image();
    final Image before = new Image();
    int made;
    int pageCount;
    private final int[] kind = new int[MOST_OBJECTS];
    private final boolean[] there = new boolean[MOST_OBJECTS];
    private final int[] maker = new int[MOST_OBJECTS];
    private final int[] saver = new int[MOST_OBJECTS];
    private final int[] changer = new int[MOST_PAGES];
    private final int[] pageMaker = new int[MOST_PAGES];

    Store(Kinds kinds) {
      this.kinds = kinds;
      Arrays.fill(maker, NONE);
      Arrays.fill(saver, NONE);
      Arrays.fill(changer, NONE);
      Arrays.fill(pageMaker, NONE);
    }

    boolean has(int object) {
      return object >= 0 && object < made && there[object];
    }

    boolean hasPage(int page) {
      return page >= 0 && page < pageCount;
    }

    int kindOf(int object) {
      return has(object) ? kind[object] : NONE;
    }

    int size(int object) {
      return 1 + now.hadAt(object);
    }

    int wholeSize(int object) {
      return 1 + kinds.widthOf(kindOf(object));
    }

    boolean isWhole(int object) {
      return size(object) == wholeSize(object);
    }

    boolean hasRoomToGrow(int object) {
      return now.usedAt(now.pageAt(object)) - size(object) + wholeSize(object) <= UNITS;
    }

    int slotOf(int object, int field) {
      return kinds.slotOf(kindOf(object), field);
    }

    /** The object that is there and to which a slot refers, if it is of this type; or NONE. */
    int target(Image image, int object, int slot, char type) {
      if (!has(object)) {
        return NONE;
      }
      char actual = kinds.typeAt(kind[object], slot);
      boolean both = type == STRONG_OR_WEAK && (actual == STRONG || actual == WEAK);
      if (!both && (actual == NUMBER || actual != type)) {
        return NONE;
      }
      int target = image.pointerAt(object, slot);
      return has(target) ? target : NONE;
    }

    /** Whether a reference knows another page than the one in which its object is. */
    boolean strays(int object, int slot) {
      int target = target(now, object, slot, STRONG_OR_WEAK);
      return target != NONE && now.knownAt(object, slot) != now.pageAt(target);
    }

    /** Whether a reference that is not weak refers to an object that is not there. */
    boolean dangles(int object) {
      for (int slot = 0; slot < MOST_WIDTH; slot++) {
        boolean strong = kinds.typeAt(kindOf(object), slot) == STRONG;
        int target = now.pointerAt(object, slot);
        if (strong && target != NONE && !has(target)) {
          return true;
        }
      }
      return false;
    }

    boolean isChanged(int page) {
      return hasPage(page) && changer[page] != NONE;
    }

    boolean isPinned(int object) {
      return isChanged(now.pageAt(object));
    }

    boolean isSaved(int object) {
      return has(object) && saver[object] != NONE;
    }

    boolean mayChange(int transaction, int page) {
      return hasPage(page) && (changer[page] == NONE || changer[page] == transaction);
    }

    /** The page for so many units: one behind the last stands for a new one; NONE if all are full. */
    int pageWithRoom(int transaction, int units) {
      for (int page = 0; page < pageCount; page++) {
        if (mayChange(transaction, page) && now.usedAt(page) + units <= UNITS) {
          return page;
        }
      }
      return pageCount < MOST_PAGES ? pageCount : NONE;
    }

    /** Called ahead of each change of a page, so that the image of before is as it was at the first one. */
    void change(int transaction, int page) {
      if (page == pageCount && pageCount < MOST_PAGES) {
        pageMaker[page] = transaction;
        pageCount++;
      }
      if (hasPage(page) && changer[page] == NONE) {
        save(transaction, page);
        changer[page] = transaction;
      }
    }

    private void save(int transaction, int page) {
      before.copyPage(now, page);
      for (int object = 0; object < made; object++) {
        if (there[object] && now.pageAt(object) == page) {
          before.copyObject(now, object);
          saver[object] = transaction;
        }
      }
    }

    int create(int transaction, int newKind, int page) {
      int object = made;
      if (object >= MOST_OBJECTS) {
        return NONE;
      }
      made++;
      kind[object] = newKind;
      there[object] = true;
      maker[object] = transaction;
      now.put(object, page);
      fillSlots(object, 0);
      now.addUnits(page, size(object));
      return object;
    }

    private void fillSlots(int object, int from) {
      if (!has(object)) {
        return;
      }
      int wide = kinds.widthOf(kindOf(object));
      for (int slot = from; slot < wide; slot++) {
        boolean number = kinds.typeAt(kind[object], slot) == NUMBER;
        now.write(object, slot, number ? 0 : NONE, NONE);
      }
      now.widenTo(object, wide);
    }

    void grow(int object) {
      now.addUnits(now.pageAt(object), wholeSize(object) - size(object));
      fillSlots(object, now.hadAt(object));
    }

    void move(int object, int page) {
      int left = now.pageAt(object);
      now.addUnits(left, -size(object));
      now.addForward(left);
      fillSlots(object, now.hadAt(object));
      now.put(object, page);
      now.addUnits(page, size(object));
    }

    void set(int transaction, int object, int slot, int value) {
      change(transaction, now.pageAt(object));
      now.write(object, slot, value, NONE);
    }

    void refer(int transaction, int object, int slot, int target) {
      change(transaction, now.pageAt(object));
      now.write(object, slot, target, now.pageAt(target));
    }

    void cut(int object, int slot) {
      now.write(object, slot, NONE, NONE);
    }

    void setRight(int object) {
      for (int slot = 0; slot < MOST_WIDTH; slot++) {
        int target = target(now, object, slot, STRONG_OR_WEAK);
        if (target != NONE) {
          now.write(object, slot, target, now.pageAt(target));
        }
      }
    }

    void free(int object) {
      if (has(object)) {
        now.addUnits(now.pageAt(object), -size(object));
        there[object] = false;
      }
    }

    int countChanged(int transaction) {
      int changed = 0;
      for (int page = 0; page < pageCount; page++) {
        if (changer[page] == transaction) {
          changed++;
        }
      }
      return changed;
    }

    void restore(int transaction) {
      for (int object = 0; object < made; object++) {
        if (maker[object] == transaction) {
          there[object] = false;
        } else if (saver[object] == transaction) {
          now.copyObject(before, object);
        }
      }
      for (int page = 0; page < pageCount; page++) {
        if (changer[page] == transaction) {
          now.copyPage(before, page);
        }
      }
      for (int last = pageCount - 1; last >= 0 && canGo(last, transaction); last--) {
        changer[last] = NONE;
        pageMaker[last] = NONE;
        pageCount = last;
      }
    }

    private boolean canGo(int page, int transaction) {
      return hasPage(page) && pageMaker[page] == transaction && now.usedAt(page) == 0;
    }

    /** Ends the transaction's part in the pages, whether it was kept or undone. */
    void settle(int transaction) {
      for (int object = 0; object < made; object++) {
        if (maker[object] == transaction) {
          maker[object] = NONE;
        }
        if (saver[object] == transaction) {
          saver[object] = NONE;
        }
      }
      for (int page = 0; page < pageCount; page++) {
        if (changer[page] == transaction) {
          changer[page] = NONE;
        }
        if (pageMaker[page] == transaction) {
          pageMaker[page] = NONE;
        }
      }
    }

    int countThere() {
      int count = 0;
      for (int object = 0; object < made; object++) {
        if (there[object]) {
          count++;
        }
      }
      return count;
    }

    int sumOfSizes() {
      int sum = 0;
      for (int object = 0; object < made; object++) {
        if (there[object]) {
          sum += size(object);
        }
      }
      return sum;
    }

    int sumOfUsed() {
      int sum = 0;
      for (int page = 0; page < pageCount; page++) {
        sum += now.usedAt(page);
      }
      return sum;
    }

    boolean pagesAddUp() {
      for (int page = 0; page < pageCount; page++) {
        int units = now.forwardsAt(page);
        for (int object = 0; object < made; object++) {
          if (there[object] && now.pageAt(object) == page) {
            units += size(object);
          }
        }
        if (units != now.usedAt(page) || units > UNITS) {
          return false;
        }
      }
      return true;
    }
  }

  /** The pages in memory. Those that an open transaction has changed never leave it. */
  private static final class Memory {
    int brought;
    private final Store store;
    private final boolean[] inside = new boolean[MOST_PAGES];
    private final int[] lastUse = new int[MOST_PAGES];
    private int uses;

    Memory(Store store) {
      this.store = store;
    }

    boolean holds(int page) {
      return page >= 0 && page < MOST_PAGES && inside[page];
    }

    /** Whether two pages find place together, beside all that cannot leave. */
    boolean canHold(int page, int other) {
      int needed = 0;
      for (int at = 0; at < MOST_PAGES; at++) {
        if (at == page || at == other || store.isChanged(at)) {
          needed++;
        }
      }
      return needed <= FRAMES;
    }

    void use(int page) {
      if (page < 0 || page >= MOST_PAGES) {
        return;
      }
      if (!inside[page]) {
        giveWay();
        inside[page] = true;
        brought++;
      }
      uses++;
      lastUse[page] = uses;
    }

    private void giveWay() {
      int count = 0;
      int oldest = NONE;
      for (int page = 0; page < MOST_PAGES; page++) {
        if (inside[page]) {
          count++;
          if (!store.isChanged(page) && (oldest == NONE || lastUse[page] < lastUse[oldest])) {
            oldest = page;
          }
        }
      }
      if (count >= FRAMES && oldest != NONE) {
        inside[oldest] = false;
      }
    }

    void drop(int from) {
      for (int page = from < 0 ? 0 : from; page < MOST_PAGES; page++) {
        inside[page] = false;
      }
    }
  }

  /** Which transactions are open, what they hold, and the roots. */
  private static final class Transactions {
    private final boolean[] open = new boolean[TRANSACTIONS];
    private final int[] holder = new int[MOST_OBJECTS];
    private final int[] rootObject = new int[ROOTS];
    private final int[] rootBefore = new int[ROOTS];
    private final int[] rootChanger = new int[ROOTS];

    Transactions() {
      Arrays.fill(holder, NONE);
      Arrays.fill(rootObject, NONE);
      Arrays.fill(rootBefore, NONE);
      Arrays.fill(rootChanger, NONE);
    }

    private static boolean isTransaction(int transaction) {
      return transaction >= 0 && transaction < TRANSACTIONS;
    }

    private static boolean isObject(int object) {
      return object >= 0 && object < MOST_OBJECTS;
    }

    private static boolean isRoot(int number) {
      return number >= 0 && number < ROOTS;
    }

    boolean isRunning(int transaction) {
      return isTransaction(transaction) && open[transaction];
    }

    void start(int transaction) {
      if (isTransaction(transaction)) {
        open[transaction] = true;
      }
    }

    int running() {
      int count = 0;
      for (int transaction = 0; transaction < TRANSACTIONS; transaction++) {
        if (open[transaction]) {
          count++;
        }
      }
      return count;
    }

    boolean isHeld(int object) {
      return isObject(object) && holder[object] != NONE;
    }

    boolean holds(int transaction, int object) {
      return isObject(object) && holder[object] == transaction;
    }

    boolean mayHold(int transaction, int object) {
      return isObject(object) && (holder[object] == NONE || holder[object] == transaction);
    }

    void hold(int transaction, int object) {
      if (isObject(object)) {
        holder[object] = transaction;
      }
    }

    int countHeld(int transaction) {
      int count = 0;
      for (int object = 0; object < MOST_OBJECTS; object++) {
        if (holder[object] == transaction) {
          count++;
        }
      }
      return count;
    }

    int rootNow(int number) {
      return isRoot(number) ? rootObject[number] : NONE;
    }

    int rootIfUndone(int number) {
      if (isRoot(number) && rootChanger[number] != NONE) {
        return rootBefore[number];
      }
      return rootNow(number);
    }

    boolean mayChangeRoot(int transaction, int number) {
      return isRoot(number) && (rootChanger[number] == NONE || rootChanger[number] == transaction);
    }

    void changeRoot(int transaction, int number, int object) {
      if (!isRoot(number)) {
        return;
      }
      if (rootChanger[number] == NONE) {
        rootBefore[number] = rootObject[number];
        rootChanger[number] = transaction;
      }
      rootObject[number] = object;
    }

    void restoreRoots(int transaction) {
      for (int number = 0; number < ROOTS; number++) {
        if (rootChanger[number] == transaction) {
          rootObject[number] = rootBefore[number];
        }
      }
    }

    void finish(int transaction) {
      for (int object = 0; object < MOST_OBJECTS; object++) {
        if (holder[object] == transaction) {
          holder[object] = NONE;
        }
      }
      for (int number = 0; number < ROOTS; number++) {
        if (rootChanger[number] == transaction) {
          rootChanger[number] = NONE;
        }
      }
      if (isTransaction(transaction)) {
        open[transaction] = false;
      }
    }
  }

  /** The line of the objects that wait for their end, in the order in which they came to wait. */
  private static final class Ends {
    int length;
    private final int[] waiting = new int[MOST_OBJECTS];
    private final boolean[] waits = new boolean[MOST_OBJECTS];
    private final boolean[] called = new boolean[MOST_OBJECTS];

    boolean isWaiting(int object) {
      return object >= 0 && object < MOST_OBJECTS && waits[object];
    }

    boolean wasCalled(int object) {
      return object >= 0 && object < MOST_OBJECTS && called[object];
    }

    void enter(int object) {
      if (object >= 0 && object < MOST_OBJECTS && length < MOST_OBJECTS && !waits[object]) {
        waits[object] = true;
        waiting[length] = object;
        length++;
      }
    }

    int first() {
      return length > 0 ? waiting[0] : NONE;
    }

    void callFirst() {
      int object = first();
      if (object < 0 || object >= MOST_OBJECTS) {
        return;
      }
      waits[object] = false;
      called[object] = true;
      length--;
      System.arraycopy(waiting, 1, waiting, 0, length);
    }
  }

  /** Finds what is reached over references that are not weak, as they are now. */
  private static final class Reach {
    int length;
    private final Store store;
    private final Transactions transactions;
    private final Ends line;
    private final int[] queue = new int[MOST_OBJECTS];
    private final boolean[] found = new boolean[MOST_OBJECTS];

    Reach(Store store, Transactions transactions, Ends line) {
      this.store = store;
      this.transactions = transactions;
      this.line = line;
    }

    boolean has(int object) {
      return object >= 0 && object < MOST_OBJECTS && found[object];
    }

    void fromRoots() {
      clear();
      addRoots();
      spread();
    }

    void fromHands() {
      clear();
      addRoots();
      for (int object = 0; object < MOST_OBJECTS; object++) {
        if (transactions.isHeld(object) || line.isWaiting(object)) {
          add(object);
        }
      }
      spread();
    }

    void fromOne(int object) {
      clear();
      add(object);
      spread();
    }

    private void clear() {
      length = 0;
      for (int object = 0; object < MOST_OBJECTS; object++) {
        found[object] = false;
      }
    }

    private void addRoots() {
      for (int number = 0; number < ROOTS; number++) {
        add(transactions.rootNow(number));
      }
    }

    private void add(int object) {
      if (store.has(object) && !has(object) && length < MOST_OBJECTS) {
        found[object] = true;
        queue[length] = object;
        length++;
      }
    }

    private void spread() {
      for (int next = 0; next < length && next < MOST_OBJECTS; next++) {
        for (int slot = 0; slot < MOST_WIDTH; slot++) {
          add(store.target(store.now, queue[next], slot, STRONG));
        }
      }
    }
  }

  /** The collector: each step is sought anew from the colours, so nothing else must outlive a crash. */
  private static final class Collector {
    private static final int START = 0;
    private static final int MARK = 1;
    private static final int WEAKEN = 2;
    private static final int END = 3;
    private static final int SWEEP = 4;
    private static final int FIX = 5;
    private static final int PHASES = 6;
    private static final String LETTERS = "imwesf";

    private static final int MADE = 0;
    private static final int HINDERED = 1;
    private static final int NOTHING = 2;

    private static final char WHITE = 'w';
    private static final char GREY = 'g';
    private static final char BLACK = 'b';

    int cyclesEnded;
    int objectsFreed;
    private final Store store;
    private final Transactions transactions;
    private final Ends line;
    private final Reach reach;
    private final char[] colour = new char[MOST_OBJECTS];
    private int phaseNow = START;

    Collector(Store store, Transactions transactions, Ends line, Reach reach) {
      this.store = store;
      this.transactions = transactions;
      this.line = line;
      this.reach = reach;
      for (int object = 0; object < MOST_OBJECTS; object++) {
        colour[object] = WHITE;
      }
    }

    char letter() {
      return phaseNow >= 0 && phaseNow < PHASES ? LETTERS.charAt(phaseNow) : LETTERS.charAt(START);
    }

    char paintOf(int object) {
      return object >= 0 && object < MOST_OBJECTS ? colour[object] : WHITE;
    }

    boolean isWhite(int object) {
      return store.has(object) && paintOf(object) == WHITE;
    }

    boolean hasMarked() {
      return phaseNow == WEAKEN || phaseNow == END || phaseNow == SWEEP;
    }

    void paintNew(int object) {
      paint(object, phaseNow == START ? WHITE : BLACK);
    }

    /** What marking has passed by must not be hidden behind a black object or a root. */
    void paintTarget(int object) {
      if (phaseNow == MARK) {
        greyIfWhite(object);
      }
    }

    private void paint(int object, char newColour) {
      if (object >= 0 && object < MOST_OBJECTS) {
        colour[object] = newColour;
      }
    }

    private boolean greyIfWhite(int object) {
      if (!isWhite(object)) {
        return false;
      }
      paint(object, GREY);
      return true;
    }

    /** Makes a step, in this phase or the next one that has one; false if it is hindered. */
    boolean step() {
      for (int tries = 0; tries <= PHASES; tries++) {
        int outcome = NOTHING;
        switch (phaseNow) {
          case START:
            outcome = startStep();
            break;
          case MARK:
            outcome = markStep();
            break;
          case WEAKEN:
            outcome = weakenStep();
            break;
          case END:
            outcome = endStep();
            break;
          case SWEEP:
            outcome = sweepStep();
            break;
          default:
            outcome = fixStep();
            break;
        }
        if (outcome != NOTHING) {
          return outcome == MADE;
        }
        goOn();
      }
      return false;
    }

    private void goOn() {
      if (phaseNow == FIX) {
        cyclesEnded++;
        phaseNow = START;
      } else {
        phaseNow++;
      }
    }

    private int startStep() {
      for (int object = 0; object < MOST_OBJECTS; object++) {
        colour[object] = WHITE;
      }
      greyHands();
      phaseNow = MARK;
      return MADE;
    }

    private int markStep() {
      int grey = lowestGrey();
      if (grey == NONE) {
        return greyHands() ? MADE : NOTHING;
      }
      paint(grey, BLACK);
      greyTargets(store.now, grey);
      if (store.isSaved(grey)) {
        greyTargets(store.before, grey);
      }
      return MADE;
    }

    private int lowestGrey() {
      for (int object = 0; object < store.made; object++) {
        if (store.has(object) && paintOf(object) == GREY) {
          return object;
        }
      }
      return NONE;
    }

    private void greyTargets(Image image, int object) {
      for (int slot = 0; slot < MOST_WIDTH; slot++) {
        greyIfWhite(store.target(image, object, slot, STRONG));
      }
    }

    /** Roots count also as an abort would bring them back: what they keep must outlive it. */
    private boolean greyHands() {
      boolean any = false;
      for (int number = 0; number < ROOTS; number++) {
        if (greyIfWhite(transactions.rootNow(number))) {
          any = true;
        }
        if (greyIfWhite(transactions.rootIfUndone(number))) {
          any = true;
        }
      }
      for (int object = 0; object < store.made; object++) {
        boolean inHand = transactions.isHeld(object) || line.isWaiting(object);
        if (inHand && greyIfWhite(object)) {
          any = true;
        }
      }
      return any;
    }

    private int weakenStep() {
      for (int object = 0; object < store.made; object++) {
        if (store.has(object) && seesWhite(object)) {
          if (store.isPinned(object)) {
            return HINDERED;
          }
          loseWhite(object);
          return MADE;
        }
      }
      return NOTHING;
    }

    private boolean seesWhite(int object) {
      for (int slot = 0; slot < MOST_WIDTH; slot++) {
        if (isWhite(store.target(store.now, object, slot, WEAK))) {
          return true;
        }
      }
      return false;
    }

    private void loseWhite(int object) {
      for (int slot = 0; slot < MOST_WIDTH; slot++) {
        if (isWhite(store.target(store.now, object, slot, WEAK))) {
          store.cut(object, slot);
        }
      }
    }

    private int endStep() {
      for (int object = 0; object < store.made; object++) {
        if (isWhite(object) && awaitsEnd(object)) {
          line.enter(object);
          reach.fromOne(object);
          blackenReached();
          return MADE;
        }
      }
      return NOTHING;
    }

    private boolean awaitsEnd(int object) {
      boolean passed = line.wasCalled(object) || line.isWaiting(object);
      return !passed && store.kinds.mustEnd(store.kindOf(object));
    }

    private void blackenReached() {
      for (int object = 0; object < MOST_OBJECTS; object++) {
        if (reach.has(object)) {
          paint(object, BLACK);
        }
      }
    }

    private int sweepStep() {
      for (int object = 0; object < store.made; object++) {
        if (isWhite(object)) {
          if (store.isPinned(object)) {
            return HINDERED;
          }
          store.free(object);
          objectsFreed++;
          return MADE;
        }
      }
      return NOTHING;
    }

    private int fixStep() {
      for (int object = 0; object < store.made; object++) {
        if (store.has(object) && isAstray(object)) {
          if (store.isPinned(object)) {
            return HINDERED;
          }
          store.setRight(object);
          return MADE;
        }
      }
      return dropForwards();
    }

    private boolean isAstray(int object) {
      for (int slot = 0; slot < MOST_WIDTH; slot++) {
        if (store.strays(object, slot)) {
          return true;
        }
      }
      return false;
    }

    private int dropForwards() {
      boolean any = false;
      for (int page = 0; page < store.pageCount; page++) {
        if (store.now.forwardsAt(page) > 0) {
          if (store.isChanged(page)) {
            return HINDERED;
          }
          any = true;
        }
      }
      if (!any) {
        return NOTHING;
      }
      for (int page = 0; page < store.pageCount; page++) {
        store.now.dropForwards(page);
      }
      return MADE;
    }
  }

  /** The indexes, kept as the value with which each object stands in each of them. */
  private static final class Indexes {
    private static final int NOWHERE = MOST_VALUE + 1;

    int count;
    private final Store store;
    private final int[] kind = new int[MOST_INDEXES];
    private final int[][] path = new int[MOST_INDEXES][PATH];
    private final int[][] kept = new int[MOST_INDEXES][MOST_OBJECTS];

    Indexes(Store store) {
      this.store = store;
    }

    boolean has(int index) {
      return index >= 0 && index < count;
    }

    int append(int newKind, int first, int second, int third) {
      int index = count;
      if (index >= MOST_INDEXES) {
        return NONE;
      }
      kind[index] = newKind;
      path[index][0] = first;
      path[index][1] = second;
      path[index][2] = third;
      count++;
      return index;
    }

    void refresh() {
      for (int index = 0; index < count; index++) {
        for (int object = 0; object < MOST_OBJECTS; object++) {
          kept[index][object] = find(index, object);
        }
      }
    }

    private int find(int index, int object) {
      if (!has(index) || !store.kinds.isBelow(store.kindOf(object), kind[index])) {
        return NOWHERE;
      }
      int at = object;
      for (int step = 0; step < PATH && at != NONE; step++) {
        int field = path[index][step];
        int slot = store.slotOf(at, field);
        if (slot == NONE) {
          return NOWHERE;
        }
        if (store.kinds.typeOf(field) == NUMBER) {
          return slot < store.now.hadAt(at) ? store.now.valueAt(at, slot) : 0;
        }
        at = store.target(store.now, at, slot, STRONG);
      }
      return NOWHERE;
    }

    int countKept(int index, int value) {
      int sum = 0;
      for (int object = 0; object < MOST_OBJECTS; object++) {
        if (value != NOWHERE && has(index) && kept[index][object] == value) {
          sum++;
        }
      }
      return sum;
    }

    int countFound(int index, int value) {
      int sum = 0;
      for (int object = 0; object < MOST_OBJECTS; object++) {
        if (value != NOWHERE && find(index, object) == value) {
          sum++;
        }
      }
      return sum;
    }

    boolean areAsFound() {
      for (int index = 0; index < count; index++) {
        for (int object = 0; object < MOST_OBJECTS; object++) {
          if (kept[index][object] != find(index, object)) {
            return false;
          }
        }
      }
      return true;
    }
  }
}
