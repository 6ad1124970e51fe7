import java.util.ArrayList;
import java.util.List;
import java.util.function.Consumer;

/** Two sentences of the terms on exceptions: which one is thrown if several apply, and that nothing changes. */
public final class EdgeOrderTest {
  private static final String FIRST = "If several exceptions apply, the one that is documented first is thrown.";
  private static final String NOTHING = "A method that throws an exception changes nothing.";

  public static void main(String[] args) {
    orderOfAddKind();
    orderOfAddField();
    orderOfMake();
    orderOfLock();
    orderOfSetNumber();
    orderOfNumber();
    orderOfLink();
    orderOfFollow();
    orderOfSetRoot();
    orderOfCrash();
    orderOfCallEnd();
    orderOfAddIndex();
    nothingChangesByRefusedCalls();
    Check.end("EdgeOrderTest");
  }

  /** 12 full pages and 4 changed ones in memory, all by transaction 0; 1 is open, 2 is not; a field is lacking. */
  private static final Scene PACKED = Scene.of(() -> {
    MarrowHeap x = Scene.chain(12, 4);
    x.begin(1);
    x.addField(0, 'n');
    return x;
  });

  /** Transaction 0 holds the root's object 0 and has changed its page; 1 -> 0 is not in hand; 2 is held by 1. */
  private static final Scene LOOSE = Scene.of(() -> {
    MarrowHeap x = Scene.chain(1);
    x.begin(0);
    x.lock(0, 3);
    x.setRoot(0, 0, 0);
    x.setRoot(0, 1, 2);
    x.link(0, 2, 1, -1);
    x.commit(0);
    x.begin(0);
    x.begin(1);
    x.lock(0, 0);
    x.lock(1, 2);
    x.setNumber(0, 0, 0, 1);
    x.setRoot(0, 3, 0);
    return x;
  });

  private static void first(Scene scene, String what, Class<? extends RuntimeException> due, Consumer<MarrowHeap> call) {
    Edge.refuses(scene, what, due, call);
  }

  private static void orderOfAddKind() {
    Edge.says(Edge.TERMS, FIRST);
    first(Scene.FULL, "addKind: no parent, 8 kinds", Edge.ARGUMENT, x -> x.addKind(8, false));
    first(Scene.FULL, "addKind: parent -2, 8 kinds", Edge.ARGUMENT, x -> x.addKind(-2, true));
  }

  private static void orderOfAddField() {
    Edge.says(Edge.TERMS, FIRST);
    first(Scene.SMALL, "addField: no kind, no type", Edge.INDEX, x -> x.addField(3, 'x'));
    first(Scene.FULL, "addField: no kind, 20 fields", Edge.INDEX, x -> x.addField(8, 'n'));
    first(Scene.FULL, "addField: no kind, no type, 20 fields", Edge.INDEX, x -> x.addField(-1, 'x'));
    first(Scene.FULL, "addField: no type, 20 fields", Edge.ARGUMENT, x -> x.addField(0, 'x'));
    Scene six = Scene.of(() -> {
      MarrowHeap x = new MarrowHeap();
      x.addKind(-1, false);
      x.addKind(0, false);
      for (int i = 0; i < 6; i++) {
        x.addField(1, 'n');
      }
      return x;
    });
    first(six, "addField: no type, 6 fields", Edge.ARGUMENT, x -> x.addField(1, 'x'));
    first(six, "addField: no type, 6 fields below", Edge.ARGUMENT, x -> x.addField(0, 'x'));
  }

  private static void orderOfMake() {
    Edge.says(Edge.TERMS, FIRST);
    first(Scene.SMALL, "make: no transaction, no kind", Edge.ARGUMENT, x -> x.make(3, 3));
    first(Scene.FULL, "make: no transaction, 100 objects", Edge.ARGUMENT, x -> x.make(-1, 0));
    first(PACKED, "make: no transaction, no room", Edge.ARGUMENT, x -> x.make(3, 0));
    first(Scene.SMALL, "make: no kind, not open", Edge.INDEX, x -> x.make(2, 3));
    first(Scene.FULL, "make: no kind, 100 objects", Edge.INDEX, x -> x.make(0, 8));
    first(PACKED, "make: no kind, no room", Edge.INDEX, x -> x.make(0, 2));
    first(PACKED, "make: not open, no room", Edge.STATE, x -> x.make(2, 0));
    first(Scene.FULL, "make: 100 objects, no room, memory is full", Edge.STATE, x -> x.make(0, 2));
    first(PACKED, "make: no room, memory is full", Edge.OPERATION, x -> x.make(0, 0));
  }

  private static void orderOfLock() {
    Edge.says(Edge.TERMS, FIRST);
    first(LOOSE, "lock: no transaction, no object", Edge.ARGUMENT, x -> x.lock(3, 4));
    first(LOOSE, "lock: no transaction, not in hand", Edge.ARGUMENT, x -> x.lock(-1, 1));
    first(LOOSE, "lock: no transaction, held by others", Edge.ARGUMENT, x -> x.lock(3, 0));
    first(LOOSE, "lock: no object, not open", Edge.INDEX, x -> x.lock(2, 4));
    first(LOOSE, "lock: no object, not in hand", Edge.INDEX, x -> x.lock(0, -1));
    first(LOOSE, "lock: not open, not in hand", Edge.STATE, x -> x.lock(2, 1));
    first(LOOSE, "lock: not open, held by another", Edge.STATE, x -> x.lock(2, 0));
    first(LOOSE, "lock: not in hand, the one it reaches is held by another", Edge.ELEMENT, x -> x.lock(1, 1));
  }

  private static void orderOfSetNumber() {
    Edge.says(Edge.TERMS, FIRST);
    first(LOOSE, "setNumber: no transaction, all else", Edge.ARGUMENT, x -> x.setNumber(3, 4, 9, 10000));
    first(LOOSE, "setNumber: no transaction, no object", Edge.ARGUMENT, x -> x.setNumber(3, 4, 0, 1));
    first(LOOSE, "setNumber: no transaction, no field", Edge.ARGUMENT, x -> x.setNumber(-1, 0, 9, 1));
    first(LOOSE, "setNumber: value, no object", Edge.ARGUMENT, x -> x.setNumber(0, 4, 0, 10000));
    first(LOOSE, "setNumber: value, not open", Edge.ARGUMENT, x -> x.setNumber(2, 0, 0, -10000));
    first(LOOSE, "setNumber: value, not held", Edge.ARGUMENT, x -> x.setNumber(1, 0, 0, 10000));
    first(LOOSE, "setNumber: value, no field", Edge.ARGUMENT, x -> x.setNumber(0, 0, 1, 10000));
    first(LOOSE, "setNumber: value, page of another", Edge.ARGUMENT, x -> x.setNumber(1, 2, 0, 10000));
    first(LOOSE, "setNumber: no object, not open", Edge.INDEX, x -> x.setNumber(2, 4, 0, 1));
    first(LOOSE, "setNumber: no object, no field", Edge.INDEX, x -> x.setNumber(0, 4, 9, 1));
    first(LOOSE, "setNumber: not open, no field", Edge.STATE, x -> x.setNumber(2, 0, 9, 1));
    first(LOOSE, "setNumber: not held, no field", Edge.STATE, x -> x.setNumber(1, 0, 9, 1));
    first(LOOSE, "setNumber: not held, page of another", Edge.STATE, x -> x.setNumber(1, 0, 0, 1));
    first(PACKED, "setNumber: not open, memory is full", Edge.STATE, x -> x.setNumber(2, 47, 0, 1));
    first(PACKED, "setNumber: not held, memory is full", Edge.STATE, x -> x.setNumber(1, 47, 0, 1));
    first(LOOSE, "setNumber: no field, page of another", Edge.ELEMENT, x -> x.setNumber(1, 2, 1, 1));
    first(PACKED, "setNumber: no field, memory is full", Edge.ELEMENT, x -> x.setNumber(0, 47, 1, 1));
  }

  private static void orderOfNumber() {
    Edge.says(Edge.TERMS, FIRST);
    first(LOOSE, "number: no transaction, no object", Edge.ARGUMENT, x -> x.number(3, 4, 0));
    first(LOOSE, "number: no transaction, no field", Edge.ARGUMENT, x -> x.number(-1, 0, 9));
    first(PACKED, "number: no transaction, memory is full", Edge.ARGUMENT, x -> x.number(3, 47, 0));
    first(LOOSE, "number: no object, not open", Edge.INDEX, x -> x.number(2, 4, 0));
    first(LOOSE, "number: no object, no field", Edge.INDEX, x -> x.number(0, 4, 9));
    first(LOOSE, "number: not open, no field", Edge.STATE, x -> x.number(2, 0, 9));
    first(LOOSE, "number: not held, no field", Edge.STATE, x -> x.number(1, 0, 9));
    first(PACKED, "number: not open, memory is full", Edge.STATE, x -> x.number(2, 47, 0));
    first(PACKED, "number: not held, memory is full", Edge.STATE, x -> x.number(1, 47, 0));
    first(PACKED, "number: no field, memory is full", Edge.ELEMENT, x -> x.number(0, 47, 1));
    first(PACKED, "number: no field, pages are full", Edge.ELEMENT, x -> x.number(0, 0, 9));
  }

  private static void orderOfLink() {
    Edge.says(Edge.TERMS, FIRST);
    first(LOOSE, "link: no transaction, no object", Edge.ARGUMENT, x -> x.link(3, 4, 1, 4));
    first(LOOSE, "link: no transaction, no target", Edge.ARGUMENT, x -> x.link(-1, 0, 1, 4));
    first(LOOSE, "link: no transaction, no field", Edge.ARGUMENT, x -> x.link(3, 0, 9, -1));
    first(LOOSE, "link: no object, not open", Edge.INDEX, x -> x.link(2, 4, 1, -1));
    first(LOOSE, "link: no target, not open", Edge.INDEX, x -> x.link(2, 0, 1, 4));
    first(LOOSE, "link: no target, object not held", Edge.INDEX, x -> x.link(1, 0, 1, -2));
    first(LOOSE, "link: no object, target not held", Edge.INDEX, x -> x.link(1, 4, 1, 0));
    first(LOOSE, "link: no target, no field", Edge.INDEX, x -> x.link(0, 0, 9, 4));
    first(LOOSE, "link: no target, page of another", Edge.INDEX, x -> x.link(1, 2, 1, 4));
    first(LOOSE, "link: not open, no field", Edge.STATE, x -> x.link(2, 0, 9, -1));
    first(LOOSE, "link: object not held, no field", Edge.STATE, x -> x.link(1, 0, 9, -1));
    first(LOOSE, "link: target not held, no field", Edge.STATE, x -> x.link(0, 0, 9, 2));
    first(LOOSE, "link: target not held, a number", Edge.STATE, x -> x.link(0, 0, 0, 2));
    first(LOOSE, "link: target not held, page of another", Edge.STATE, x -> x.link(1, 2, 1, 0));
    first(PACKED, "link: object not held, memory is full", Edge.STATE, x -> x.link(1, 47, 1, -1));
    first(LOOSE, "link: no field, page of another", Edge.ELEMENT, x -> x.link(1, 2, 0, 2));
    first(PACKED, "link: no field, memory is full", Edge.ELEMENT, x -> x.link(0, 47, 0, -1));
  }

  private static void orderOfFollow() {
    Edge.says(Edge.TERMS, FIRST);
    first(LOOSE, "follow: no transaction, no object", Edge.ARGUMENT, x -> x.follow(3, 4, 1));
    first(LOOSE, "follow: no transaction, no field", Edge.ARGUMENT, x -> x.follow(-1, 0, 9));
    first(PACKED, "follow: no transaction, memory is full", Edge.ARGUMENT, x -> x.follow(3, 47, 1));
    first(LOOSE, "follow: no object, not open", Edge.INDEX, x -> x.follow(2, 4, 1));
    first(LOOSE, "follow: no object, no field", Edge.INDEX, x -> x.follow(0, 4, 9));
    first(LOOSE, "follow: not open, no field", Edge.STATE, x -> x.follow(2, 0, 9));
    first(LOOSE, "follow: not held, no field", Edge.STATE, x -> x.follow(1, 0, 9));
    first(PACKED, "follow: not open, memory is full", Edge.STATE, x -> x.follow(2, 47, 1));
    first(PACKED, "follow: not held, memory is full", Edge.STATE, x -> x.follow(1, 47, 1));
    first(PACKED, "follow: no field, memory is full", Edge.ELEMENT, x -> x.follow(0, 47, 0));
    first(PACKED, "follow: no field, pages are full", Edge.ELEMENT, x -> x.follow(0, 0, 9));
  }

  private static void orderOfSetRoot() {
    Edge.says(Edge.TERMS, FIRST);
    first(LOOSE, "setRoot: no transaction, no object", Edge.ARGUMENT, x -> x.setRoot(3, 0, 4));
    first(LOOSE, "setRoot: no root, no object", Edge.ARGUMENT, x -> x.setRoot(0, 4, 4));
    first(LOOSE, "setRoot: no root, not open", Edge.ARGUMENT, x -> x.setRoot(2, -1, -1));
    first(LOOSE, "setRoot: no root, not held", Edge.ARGUMENT, x -> x.setRoot(0, 4, 2));
    first(LOOSE, "setRoot: no transaction, root of another", Edge.ARGUMENT, x -> x.setRoot(3, 3, -1));
    first(LOOSE, "setRoot: no object, not open", Edge.INDEX, x -> x.setRoot(2, 0, 4));
    first(LOOSE, "setRoot: no object, root of another", Edge.INDEX, x -> x.setRoot(1, 3, -2));
    first(LOOSE, "setRoot: not open, root of another", Edge.STATE, x -> x.setRoot(2, 3, -1));
    first(LOOSE, "setRoot: not held, root of another", Edge.STATE, x -> x.setRoot(1, 3, 0));
    first(LOOSE, "setRoot: root of another alone", Edge.OPERATION, x -> x.setRoot(1, 3, 2));
  }

  private static void orderOfCrash() {
    Edge.says(Edge.TERMS, FIRST);
    first(LOOSE, "crash: no transaction, less than no steps", Edge.ARGUMENT, x -> x.crash(3, -1));
    first(LOOSE, "crash: less than no steps, not open", Edge.ARGUMENT, x -> x.crash(2, -1));
    first(LOOSE, "crash: not open alone", Edge.STATE, x -> x.crash(2, 0));
  }

  private static void orderOfCallEnd() {
    Edge.says(Edge.TERMS, FIRST);
    Scene held = Scene.of(() -> {
      MarrowHeap x = Scene.SMALL.fresh();
      x.lock(1, 3);
      return x;
    });
    first(LOOSE, "callEnd: no transaction, none waits", Edge.ARGUMENT, x -> x.callEnd(3));
    first(held, "callEnd: no transaction, held by another", Edge.ARGUMENT, x -> x.callEnd(-1));
    first(LOOSE, "callEnd: not open, none waits", Edge.STATE, x -> x.callEnd(2));
    first(held, "callEnd: not open, held by another", Edge.STATE, x -> x.callEnd(2));
    first(held, "callEnd: held by another alone", Edge.OPERATION, x -> x.callEnd(0));
  }

  private static void orderOfAddIndex() {
    Edge.says(Edge.TERMS, FIRST);
    first(Scene.SMALL, "addIndex: no kind, a wrong path", Edge.INDEX, x -> x.addIndex(3, 1, -1, -1));
    first(Scene.FULL, "addIndex: no kind, 3 indexes", Edge.INDEX, x -> x.addIndex(8, 0, -1, -1));
    first(Scene.FULL, "addIndex: no kind, a wrong path, 3 indexes", Edge.INDEX, x -> x.addIndex(-1, -1, -1, -1));
    first(Scene.FULL, "addIndex: a wrong path, 3 indexes", Edge.ARGUMENT, x -> x.addIndex(0, 2, -1, -1));
  }

  // ---- all refused calls in a row

  private static void nothingChangesByRefusedCalls() {
    Edge.says(Edge.TERMS, NOTHING);
    for (Scene scene : List.of(Scene.EMPTY, Scene.SMALL, Scene.FULL, PACKED, LOOSE)) {
      List<Consumer<MarrowHeap>> refused = refusedBy(scene);
      Edge.yes("many are refused: " + refused.size(), refused.size() > 500);
      MarrowHeap x = scene.fresh();
      apply(x, refused);
      Edge.sameText("at once", Look.at(x), Look.at(scene.fresh()));
      for (int way = 0; way < Look.WAYS; way++) {
        MarrowHeap y = scene.fresh();
        apply(y, refused);
        Edge.sameText("later, on way " + way, Look.later(y, way), scene.later(way));
      }
    }
  }

  private static void apply(MarrowHeap x, List<Consumer<MarrowHeap>> refused) {
    for (Consumer<MarrowHeap> call : refused) {
      Edge.yes("refused", throwsSome(x, call));
    }
  }

  private static boolean throwsSome(MarrowHeap x, Consumer<MarrowHeap> call) {
    try {
      call.accept(x);
      return false;
    } catch (RuntimeException e) {
      return true;
    }
  }

  /** Those of many calls that a fresh database of this scene refuses. */
  private static List<Consumer<MarrowHeap>> refusedBy(Scene scene) {
    List<Consumer<MarrowHeap>> refused = new ArrayList<>();
    MarrowHeap x = scene.fresh();
    for (Consumer<MarrowHeap> call : candidates()) {
      if (throwsSome(x, call)) {
        refused.add(call);
      } else {
        x = scene.fresh();
      }
    }
    return refused;
  }

  private static List<Consumer<MarrowHeap>> candidates() {
    List<Consumer<MarrowHeap>> calls = new ArrayList<>();
    int[] transactions = {-1, 0, 1, 2, 3, Edge.LEAST, Edge.GREATEST};
    int[] objects = {-2, -1, 0, 1, 3, 5, 47, 99, 100, Edge.LEAST, Edge.GREATEST};
    int[] fields = {-1, 0, 1, 2, 3, 20, Edge.LEAST, Edge.GREATEST};
    for (int t : transactions) {
      calls.add(x -> x.begin(t));
      calls.add(x -> x.commit(t));
      calls.add(x -> x.abort(t));
      calls.add(x -> x.callEnd(t));
      calls.add(x -> x.heldBy(t));
      calls.add(x -> x.isOpen(t));
      calls.add(x -> x.crash(t, -1));
      calls.add(x -> x.crash(t, 1));
      calls.add(x -> x.crash(t, Edge.LEAST));
      for (int kind : new int[] {-1, 0, 1, 2, 7, 8, Edge.LEAST, Edge.GREATEST}) {
        calls.add(x -> x.make(t, kind));
      }
      for (int object : objects) {
        calls.add(x -> x.lock(t, object));
        calls.add(x -> x.setRoot(t, 0, object));
        calls.add(x -> x.setRoot(t, 4, object));
        for (int field : fields) {
          calls.add(x -> x.setNumber(t, object, field, 1));
          calls.add(x -> x.setNumber(t, object, field, 10000));
          calls.add(x -> x.number(t, object, field));
          calls.add(x -> x.follow(t, object, field));
          calls.add(x -> x.link(t, object, field, -1));
          calls.add(x -> x.link(t, object, field, 2));
          calls.add(x -> x.link(t, object, field, Edge.GREATEST));
        }
      }
    }
    addQuestions(calls);
    return calls;
  }

  private static void addQuestions(List<Consumer<MarrowHeap>> calls) {
    for (int number : new int[] {-2, -1, 0, 1, 2, 3, 4, 5, 8, 12, 99, 100, Edge.LEAST, Edge.GREATEST}) {
      calls.add(x -> x.addKind(number, true));
      calls.add(x -> x.addField(number, 'n'));
      calls.add(x -> x.addField(number, 'x'));
      calls.add(x -> x.fieldsOf(number));
      calls.add(x -> x.isKind(number, 0));
      calls.add(x -> x.isKind(0, number));
      calls.add(x -> x.root(number));
      calls.add(x -> x.collect(number));
      calls.add(x -> x.colourOf(number));
      calls.add(x -> x.isEnded(number));
      calls.add(x -> x.pageOf(number));
      calls.add(x -> x.sizeOf(number));
      calls.add(x -> x.isConverted(number));
      calls.add(x -> x.usedOf(number));
      calls.add(x -> x.forwardsIn(number));
      calls.add(x -> x.isInMemory(number));
      calls.add(x -> x.countOf(number, 0));
      calls.add(x -> x.countAnew(number, 0));
      calls.add(x -> x.isReached(number));
      calls.add(x -> x.addIndex(number, 0, -1, -1));
      calls.add(x -> x.addIndex(0, number, -1, -1));
      calls.add(x -> x.addIndex(0, 1, number, -1));
      calls.add(x -> x.addIndex(0, 1, 1, number));
      calls.add(x -> x.usedShare());
      calls.add(x -> x.meanSize());
    }
  }
}
