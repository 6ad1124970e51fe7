import java.util.function.Supplier;

/** A state of a database that can be built again and again, and what is seen of it. */
final class Scene {
  private final Supplier<MarrowHeap> builder;
  private final String[] later = new String[Look.WAYS];

  private Scene(Supplier<MarrowHeap> builder) {
    this.builder = builder;
  }

  static Scene of(Supplier<MarrowHeap> builder) {
    return new Scene(builder);
  }

  MarrowHeap fresh() {
    return builder.get();
  }

  String later(int way) {
    if (later[way] == null) {
      later[way] = Look.later(fresh(), way);
    }
    return later[way];
  }

  // ---- databases with a few objects

  /** Kind 0 has fields of these types, kind 1 none; transaction 0 has made so many objects of kind 0 and is open. */
  static MarrowHeap plain(String types, int objects) {
    MarrowHeap x = twoKinds(types, -1, false);
    for (int i = 0; i < objects; i++) {
      x.make(0, 0);
    }
    return x;
  }

  /** Kind 0 has fields of these types, kind 1 below it an end; transaction 0 has made objects of these kinds. */
  static MarrowHeap ending(String types, int... kinds) {
    MarrowHeap x = twoKinds(types, 0, true);
    for (int kind : kinds) {
      x.make(0, kind);
    }
    return x;
  }

  private static MarrowHeap twoKinds(String types, int parent, boolean hasEnd) {
    MarrowHeap x = new MarrowHeap();
    x.addKind(-1, false);
    x.addKind(parent, hasEnd);
    for (char type : types.toCharArray()) {
      x.addField(0, type);
    }
    x.begin(0);
    return x;
  }

  // ---- scenes that several tests use

  static final Scene EMPTY = of(MarrowHeap::new);
  static final Scene SMALL = of(Scene::small);
  static final Scene FULL = of(Scene::full);

  /**
   * Kind 0: fields 0 'n', 1 'r', 2 'w'; kind 1 below it with an end: field 3 'n'; kind 2: no fields.
   * Objects: 0 -> 1 -> 2 from root 0, 3 of kind 1 waits for its end, 4 of kind 2 is root 1, 5 is freed, 6 is made by
   * transaction 1, 7 is undone, 8 is not made; 3 and 6 are in page 1, the others in page 0. Transaction 0 holds 0 to 2
   * and has changed page 0 and root 2, transaction 1 holds 4 and 6 and has changed page 1 and root 1, transaction 2 is
   * not open. Two indexes.
   */
  private static MarrowHeap small() {
    MarrowHeap x = new MarrowHeap();
    x.addKind(-1, false);
    x.addKind(0, true);
    x.addKind(-1, false);
    x.addField(0, 'n');
    x.addField(0, 'r');
    x.addField(0, 'w');
    x.addField(1, 'n');
    x.addIndex(0, 1, 0, -1);
    x.addIndex(0, 0, -1, -1);
    x.begin(0);
    for (int kind : new int[] {0, 0, 0, 1, 2, 0}) {
      x.make(0, kind);
    }
    x.link(0, 0, 1, 1);
    x.link(0, 1, 1, 2);
    x.link(0, 1, 2, 5);
    x.setNumber(0, 1, 0, 4);
    x.setRoot(0, 0, 0);
    x.setRoot(0, 1, 4);
    x.commit(0);
    while (x.exists(5)) {
      x.collect(1);
    }
    x.begin(0);
    x.lock(0, 0);
    x.setNumber(0, 1, 0, 7);
    x.setRoot(0, 2, 1);
    x.begin(1);
    x.lock(1, 4);
    x.make(1, 0);
    x.setRoot(1, 1, -1);
    x.begin(2);
    x.make(2, 2);
    x.abort(2);
    return x;
  }

  /**
   * 8 kinds, 20 fields, 6 fields of the kinds 2 to 4, 3 indexes, 100 objects, 12 pages of 16 used units, the pages 8
   * to 11 in memory, and 3 open transactions: 0 has changed page 8, 1 page 9, 2 the pages 10 and 11. The first
   * objects of the pages 0 to 7 are a chain from root 0; transaction 0 holds this chain.
   */
  private static MarrowHeap full() {
    MarrowHeap x = new MarrowHeap();
    for (int kind = 0; kind < 8; kind++) {
      x.addKind(-1, kind == 7);
    }
    x.addField(1, 'n');
    for (char type : "nrwnrr".toCharArray()) {
      x.addField(2, type);
    }
    for (int kind = 3; kind < 5; kind++) {
      for (int i = 0; i < 6; i++) {
        x.addField(kind, 'n');
      }
    }
    x.addField(5, 'w');
    x.addIndex(1, 0, -1, -1);
    x.addIndex(2, 1, -1, -1);
    x.addIndex(2, 2, 1, -1);
    int last = -1;
    for (int page = 0; page < 8; page++) {
      x.begin(0);
      int first = fillPage(x, 0, page < 4);
      if (last >= 0) {
        x.lock(0, last);
        x.link(0, first, 2, last);
      }
      x.setRoot(0, 0, first);
      x.commit(0);
      last = first;
    }
    x.begin(0);
    x.begin(1);
    x.begin(2);
    x.lock(0, last);
    x.setRoot(0, 1, fillPage(x, 0, false));
    x.setRoot(1, 2, fillPage(x, 1, false));
    fillPage(x, 2, false);
    x.setRoot(2, 3, fillPage(x, 2, false));
    return x;
  }

  /** Objects of the sizes 7, 2, 1, .. 1 or 7, 2, 2, 1, .. 1: 16 units in 9 objects or in 8. Returns the first. */
  private static int fillPage(MarrowHeap x, int transaction, boolean many) {
    int first = x.make(transaction, 2);
    x.make(transaction, 1);
    if (!many) {
      x.make(transaction, 1);
    }
    for (int i = 0; i < (many ? 7 : 5); i++) {
      x.make(transaction, 0);
    }
    return first;
  }

  /**
   * Kind 0: fields 0 'n', 1 'r', 2 'w'; kind 1: no fields. Full pages of four objects of kind 0; each refers to the
   * one made before it, and root 0 to the last. No transaction is open, and no page is in memory.
   */
  static MarrowHeap chain(int pages) {
    MarrowHeap x = new MarrowHeap();
    x.addKind(-1, false);
    x.addKind(-1, false);
    x.addField(0, 'n');
    x.addField(0, 'r');
    x.addField(0, 'w');
    for (int page = 0; page < pages; page++) {
      x.begin(0);
      for (int i = 0; i < 4; i++) {
        int object = x.make(0, 0);
        if (object > 0) {
          x.lock(0, object - 1);
          x.link(0, object, 1, object - 1);
        }
        x.setRoot(0, 0, object);
      }
      x.commit(0);
    }
    x.crash(-1, 0);
    return x;
  }

  /** A chain of so many pages; transaction 0 holds all of it, and has changed so many of the pages. */
  static MarrowHeap chain(int pages, int changed) {
    MarrowHeap x = chain(pages);
    x.begin(0);
    x.lock(0, 4 * pages - 1);
    for (int page = 0; page < changed; page++) {
      x.setNumber(0, 4 * page, 0, page + 1);
    }
    return x;
  }
}
