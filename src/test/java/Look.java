import java.util.function.Supplier;

/**
 * What can be seen of a database: all that its questions answer now, and all that it answers when things go on
 * from here in several ways. Two databases that look the same in all of this hold the same state.
 */
final class Look {
  static final int WAYS = 6;

  private final MarrowHeap x;
  private final StringBuilder text = new StringBuilder();

  private Look(MarrowHeap x) {
    this.x = x;
  }

  static String at(MarrowHeap x) {
    Look look = new Look(x);
    look.all();
    return look.text.toString();
  }

  /** Goes on with this database, which is worn out by it, and tells what comes. */
  static String later(MarrowHeap x, int way) {
    Look look = new Look(x);
    look.goOn(way);
    look.all();
    return look.text.toString();
  }

  /** The colours of the first objects, '-' for one that is not there, and the phase. */
  static String colours(MarrowHeap x, int count) {
    StringBuilder text = new StringBuilder();
    for (int object = 0; object < count; object++) {
      text.append(x.exists(object) ? x.colourOf(object) : '-');
    }
    return text.append(' ').append(x.phase()).toString();
  }

  private void put(Supplier<Object> question) {
    try {
      text.append(question.get());
    } catch (RuntimeException e) {
      text.append('!').append(e.getClass().getSimpleName());
    }
    text.append(' ');
  }

  private void line(String name) {
    text.append('\n').append(name).append(": ");
  }

  // ---- what is seen now

  private void all() {
    kinds();
    for (int object = 0; object <= 100; object++) {
      object(object);
    }
    transactions();
    collector();
    pages();
    indexes();
    line("figures");
    put(() -> x.unreached());
    put(() -> x.changes());
    put(() -> x.usedShare());
    put(() -> x.meanSize());
    put(() -> x.isSound());
  }

  private void kinds() {
    line("kinds");
    for (int kind = 0; kind <= 8; kind++) {
      int it = kind;
      put(() -> x.fieldsOf(it));
    }
  }

  private void object(int object) {
    if (!x.exists(object)) {
      return;
    }
    line("object " + object);
    put(() -> x.pageOf(object));
    put(() -> x.sizeOf(object));
    put(() -> x.isConverted(object));
    put(() -> x.colourOf(object));
    put(() -> x.isEnded(object));
    put(() -> x.isReached(object));
    for (int kind = 0; kind < 8; kind++) {
      int it = kind;
      put(() -> x.isKind(object, it) ? 1 : 0);
    }
  }

  private void transactions() {
    line("transactions");
    for (int transaction = 0; transaction < 3; transaction++) {
      int it = transaction;
      put(() -> x.isOpen(it));
      put(() -> x.heldBy(it));
    }
    line("roots");
    for (int root = 0; root < 4; root++) {
      int it = root;
      put(() -> x.root(it));
    }
  }

  private void collector() {
    line("collector");
    put(() -> x.phase());
    put(() -> x.cycles());
    put(() -> x.freed());
    put(() -> x.ends());
  }

  private void pages() {
    line("pages");
    put(() -> x.pages());
    for (int page = 0; page < x.pages(); page++) {
      int it = page;
      put(() -> x.usedOf(it));
      put(() -> x.forwardsIn(it));
      put(() -> x.isInMemory(it) ? '+' : '-');
    }
    line("memory");
    put(() -> x.faults());
    put(() -> x.forwarded());
  }

  private void indexes() {
    line("indexes");
    for (int index = 0; index <= 3; index++) {
      for (int value = -2; value <= 9; value++) {
        int it = index;
        int wanted = value;
        put(() -> x.countOf(it, wanted));
        put(() -> x.countAnew(it, wanted));
      }
    }
  }

  // ---- what is seen when things go on

  private void goOn(int way) {
    line("way " + way);
    switch (way) {
      case 0:
        endEach(false);
        touchAll(0);
        break;
      case 1:
        endEach(true);
        touchAll(1);
        break;
      case 2:
        put(() -> x.crash(-1, 0));
        touchAll(2);
        break;
      case 3:
        collectOn();
        break;
      case 4:
        fill();
        break;
      default:
        for (int transaction = 0; transaction < 3; transaction++) {
          touchAll(transaction);
        }
        endEach(false);
        break;
    }
  }

  private void endEach(boolean keep) {
    for (int transaction = 0; transaction < 3; transaction++) {
      int it = transaction;
      put(() -> keep ? x.commit(it) : x.abort(it));
    }
  }

  /** Reads all fields: what is held, what is brought into memory and what leaves it all show by that. */
  private void touchAll(int transaction) {
    if (!x.isOpen(transaction)) {
      put(() -> x.begin(transaction));
    }
    for (int object = 0; object < 100; object++) {
      if (x.exists(object)) {
        touch(transaction, object);
      }
    }
    pages();
  }

  private void touch(int transaction, int object) {
    line("touch " + object);
    put(() -> x.lock(transaction, object));
    for (int field = 0; field < 20; field++) {
      int it = field;
      String number = tried(() -> x.number(transaction, object, it));
      if (number != null) {
        text.append(number).append(' ');
      }
      String target = tried(() -> x.follow(transaction, object, it));
      if (target != null) {
        text.append(target).append(' ');
      }
    }
    text.append(x.faults()).append(' ').append(x.forwarded());
  }

  /** An answer, or the name of what was thrown; null if there is no such field, as it is with most of them. */
  private static String tried(Supplier<Integer> call) {
    try {
      return String.valueOf(call.get());
    } catch (java.util.NoSuchElementException e) {
      return null;
    } catch (RuntimeException e) {
      return e.getClass().getSimpleName();
    }
  }

  private void collectOn() {
    for (int i = 0; i < 40; i++) {
      put(() -> x.collect(1));
      put(() -> x.phase());
      put(() -> x.freed());
    }
    for (int i = 0; i < 4; i++) {
      put(() -> x.callEnd(2));
      put(() -> x.callEnd(0));
    }
  }

  private void fill() {
    for (int root = 0; root < 4; root++) {
      int it = root;
      for (int transaction = 0; transaction < 3; transaction++) {
        int by = transaction;
        put(() -> x.setRoot(by, it, -1));
      }
    }
    for (int transaction = 0; transaction < 3; transaction++) {
      int it = transaction;
      put(() -> x.begin(it));
      put(() -> x.callEnd(it));
    }
    for (int i = 0; i < 8; i++) {
      put(() -> x.addKind(-1, false));
      put(() -> x.addIndex(0, 0, -1, -1));
      put(() -> x.addIndex(1, 3, -1, -1));
      int it = i;
      put(() -> x.addField(it, 'n'));
      put(() -> x.addField(it, 'w'));
    }
    for (int i = 0; i < 30; i++) {
      int it = i;
      put(() -> x.pageOf(x.make(it % 3, it % 4)));
    }
  }
}
