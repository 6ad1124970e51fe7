import java.util.function.ToLongFunction;

/** The edges of the promises 1 to 5, and of what the terms say of kinds. */
public final class EdgeKindsTest {
  private static final int[] NO_KINDS_OF_NONE = {0, 1, -1, -2, 7, 8, Edge.LEAST, Edge.GREATEST};

  public static void main(String[] args) {
    newObjectHasNothing();
    addKindTakesParentsAndNone();
    addKindRefusesParentsThatAreNotThere();
    addKindRefusesTheNinth();
    addFieldTakesThreeTypes();
    addFieldRefusesKindsThatAreNotThere();
    addFieldRefusesTypesThatAreNotThere();
    addFieldRefusesTheTwentyFirst();
    addFieldRefusesTheSeventhOfThisKind();
    addFieldRefusesTheSeventhOfAKindBelow();
    fieldsOfRefusesKindsThatAreNotThere();
    isKindRefusesObjectsThatAreNotThere();
    isKindRefusesKindsThatAreNotThere();
    kindsAndFieldsAreNumberedFromZero();
    fieldsOfAKindAreThoseAboveToo();
    objectsHaveTheFieldsOfTheirTime();
    sizesGoFromOneToSeven();
    metObjectsHaveAllFields();
    Check.end("EdgeKindsTest");
  }

  private static MarrowHeap kinds(int count) {
    MarrowHeap x = new MarrowHeap();
    for (int kind = 0; kind < count; kind++) {
      x.addKind(-1, false);
    }
    return x;
  }

  /** Kinds, each with so many fields of its own; none has a parent. */
  private static MarrowHeap fields(int... counts) {
    MarrowHeap x = kinds(counts.length);
    for (int kind = 0; kind < counts.length; kind++) {
      for (int i = 0; i < counts[kind]; i++) {
        x.addField(kind, "nrw".charAt(i % 3));
      }
    }
    return x;
  }

  private static void refusesKinds(String name, ToLongFunctionOfKind call) {
    for (int kind : NO_KINDS_OF_NONE) {
      Edge.refuses(Scene.EMPTY, name + " of an empty database, kind " + kind, Edge.INDEX, x -> call.of(x, kind));
    }
    for (int count = 1; count <= 8; count++) {
      int there = count;
      Scene scene = Scene.of(() -> kinds(there));
      Edge.answers(scene, name + ", the last of " + count, call.of(kinds(count), 0), x -> call.of(x, there - 1));
      for (int kind : new int[] {count, -1, Edge.LEAST, Edge.GREATEST}) {
        Edge.refuses(scene, name + " of " + count + " kinds, kind " + kind, Edge.INDEX, x -> call.of(x, kind));
      }
    }
  }

  private interface ToLongFunctionOfKind {
    long of(MarrowHeap x, int kind);
  }

  // ---- promise 1

  private static void newObjectHasNothing() {
    Edge.says(1, "Creates a database without kinds, pages and objects.");
    MarrowHeap x = new MarrowHeap();
    Edge.same("pages", x.pages(), 0);
    Edge.fails("no kind", Edge.INDEX, () -> x.fieldsOf(0));
    Edge.fails("no page", Edge.INDEX, () -> x.usedOf(0));
    Edge.no("no object", x.exists(0));
    Edge.same("the first kind", x.addKind(-1, false), 0);
    Edge.same("its fields", x.fieldsOf(0), 0);
    Edge.same("none is open", x.begin(2), 1);
    Edge.same("the first object", x.make(2, 0), 0);
    Edge.same("the first page", x.pageOf(0), 0);
    Edge.same("one page", x.pages(), 1);
    Edge.no("a second database has none of it", new MarrowHeap().exists(0));
  }

  // ---- promise 2

  private static void addKindTakesParentsAndNone() {
    Edge.says(2, "`parent`: the parent, or -1 for none");
    for (int count = 0; count < 8; count++) {
      int there = count;
      Scene scene = Scene.of(() -> kinds(there));
      for (int parent = -1; parent < count; parent++) {
        int it = parent;
        Edge.answers(scene, "parent " + parent + " of " + count, count, x -> x.addKind(it, it % 2 == 0));
      }
    }
  }

  private static void addKindRefusesParentsThatAreNotThere() {
    Edge.says(2, "Throws `IllegalArgumentException` if there is no such kind as the parent, and it is not -1");
    for (int count = 0; count <= 8; count++) {
      int there = count;
      Scene scene = Scene.of(() -> kinds(there));
      for (int parent : new int[] {-2, count, count + 1, Edge.LEAST, Edge.GREATEST}) {
        Edge.refuses(scene, "parent " + parent + " of " + count, Edge.ARGUMENT, x -> x.addKind(parent, false));
        Edge.refuses(scene, "with an end, parent " + parent + " of " + count, Edge.ARGUMENT,
            x -> x.addKind(parent, true));
      }
    }
    Edge.refuses(Scene.FULL, "parent 8 of a full database", Edge.ARGUMENT, x -> x.addKind(8, false));
  }

  private static void addKindRefusesTheNinth() {
    Edge.says(2, "Throws `IllegalStateException` if there are 8 kinds");
    Edge.answers(Scene.of(() -> kinds(7)), "the eighth", 7, x -> x.addKind(-1, true));
    Edge.answers(Scene.of(() -> kinds(7)), "the eighth below one", 7, x -> x.addKind(6, false));
    Scene eight = Scene.of(() -> kinds(8));
    for (int parent = -1; parent < 8; parent++) {
      int it = parent;
      Edge.refuses(eight, "the ninth, parent " + parent, Edge.STATE, x -> x.addKind(it, it % 2 == 0));
      Edge.refuses(Scene.FULL, "of a full database, parent " + parent, Edge.STATE, x -> x.addKind(it, false));
    }
    MarrowHeap deep = new MarrowHeap();
    for (int kind = 0; kind < 8; kind++) {
      Edge.same("one below the other", deep.addKind(kind - 1, false), kind);
    }
    Edge.refusesHere(deep, "the ninth below all", Edge.STATE, () -> deep.addKind(7, false));
  }

  // ---- promise 3

  private static void addFieldTakesThreeTypes() {
    Edge.says(3, "`type`: the type: 'n' for a number, 'r' for a reference, 'w' for a weak one");
    MarrowHeap x = kinds(1);
    Edge.same("n", x.addField(0, 'n'), 0);
    Edge.same("r", x.addField(0, 'r'), 1);
    Edge.same("w", x.addField(0, 'w'), 2);
    x.begin(0);
    x.make(0, 0);
    Edge.same("a number", x.number(0, 0, 0), 0);
    Edge.same("a reference", x.follow(0, 0, 1), -1);
    Edge.same("a weak one", x.follow(0, 0, 2), -1);
    Edge.fails("a reference is no number", Edge.ELEMENT, () -> x.number(0, 0, 1));
    Edge.fails("nor is a weak one", Edge.ELEMENT, () -> x.number(0, 0, 2));
    Edge.fails("a number is no reference", Edge.ELEMENT, () -> x.follow(0, 0, 0));
    x.make(0, 0);
    x.link(0, 0, 1, 1);
    x.setRoot(0, 0, 0);
    Edge.yes("over a reference", x.isReached(1));
    x.link(0, 0, 1, -1);
    x.link(0, 0, 2, 1);
    Edge.no("not over a weak one", x.isReached(1));
  }

  private static void addFieldRefusesKindsThatAreNotThere() {
    Edge.says(3, "Throws `IndexOutOfBoundsException` if there is no such kind");
    refusesKinds("addField", (x, kind) -> x.addField(kind, 'n'));
  }

  private static void addFieldRefusesTypesThatAreNotThere() {
    Edge.says(3, "Throws `IllegalArgumentException` if there is no such type");
    Scene scene = Scene.of(() -> fields(1, 0));
    for (char type : new char[] {'m', 'o', 'q', 's', 'v', 'x', 'N', 'R', 'W', 0, 1, ' ', '-', 127, 255, 32768, 65535}) {
      Edge.refuses(scene, "type " + (int) type, Edge.ARGUMENT, x -> x.addField(1, type));
    }
    MarrowHeap x = fields(1, 0);
    for (int type = 0; type < 65536; type++) {
      char it = (char) type;
      if (it != 'n' && it != 'r' && it != 'w') {
        Edge.fails("type " + type, Edge.ARGUMENT, () -> x.addField(0, it));
      }
    }
    Edge.same("none was added", x.fieldsOf(0), 1);
    Edge.same("no number was used", x.addField(0, 'w'), 1);
  }

  private static void addFieldRefusesTheTwentyFirst() {
    Edge.says(3, "Throws `IllegalStateException` if there are 20 fields, or this kind, or one below it, would have "
        + "more than 6", "if there are 20 fields");
    Edge.answers(Scene.of(() -> fields(6, 6, 6, 1, 0)), "the twentieth", 19, x -> x.addField(4, 'n'));
    Scene twenty = Scene.of(() -> fields(6, 6, 6, 2, 0));
    for (int kind = 3; kind < 5; kind++) {
      int it = kind;
      for (char type : new char[] {'n', 'r', 'w'}) {
        Edge.refuses(twenty, "the next, of kind " + kind, Edge.STATE, x -> x.addField(it, type));
      }
    }
    Edge.refuses(Scene.FULL, "of a full database", Edge.STATE, x -> x.addField(0, 'n'));
    Edge.refuses(Scene.of(() -> {
      MarrowHeap x = fields(6, 6, 6, 2);
      x.addKind(-1, false);
      return x;
    }), "of a kind that was added last", Edge.STATE, x -> x.addField(4, 'r'));
  }

  private static void addFieldRefusesTheSeventhOfThisKind() {
    Edge.says(3, "Throws `IllegalStateException` if there are 20 fields, or this kind, or one below it, would have "
        + "more than 6", "or this kind");
    Edge.answers(Scene.of(() -> fields(5)), "the sixth", 5, x -> x.addField(0, 'n'));
    Scene six = Scene.of(() -> fields(6, 0));
    for (char type : new char[] {'n', 'r', 'w'}) {
      Edge.refuses(six, "the seventh", Edge.STATE, x -> x.addField(0, type));
    }
    Edge.answers(six, "of another kind", 6, x -> x.addField(1, 'n'));
    Scene inherited = Scene.of(() -> {
      MarrowHeap x = fields(4);
      x.addKind(0, false);
      x.addField(1, 'n');
      x.addField(1, 'n');
      x.addKind(1, false);
      return x;
    });
    Edge.refuses(inherited, "four above and two of its own", Edge.STATE, x -> x.addField(1, 'n'));
    Edge.refuses(inherited, "all of them above", Edge.STATE, x -> x.addField(2, 'n'));
    Edge.answers(Scene.of(() -> {
      MarrowHeap x = fields(4);
      x.addKind(0, false);
      x.addField(1, 'n');
      return x;
    }), "four above and the second of its own", 5, x -> x.addField(1, 'n'));
  }

  private static void addFieldRefusesTheSeventhOfAKindBelow() {
    Edge.says(3, "Throws `IllegalStateException` if there are 20 fields, or this kind, or one below it, would have "
        + "more than 6", "or one below it");
    for (int own = 5; own <= 6; own++) {
      int count = own;
      Scene scene = Scene.of(() -> {
        MarrowHeap x = kinds(1);
        x.addKind(0, false);
        x.addKind(1, false);
        x.addKind(0, false);
        for (int i = 0; i < count; i++) {
          x.addField(2, 'n');
        }
        return x;
      });
      for (int kind = 0; kind < 2; kind++) {
        int it = kind;
        if (own == 5) {
          MarrowHeap x = Edge.answers(scene, "the sixth of the kind below " + kind, 5, y -> y.addField(it, 'n'));
          Edge.same("fields of it", x.fieldsOf(2), 6);
        } else {
          Edge.refuses(scene, "the seventh of the kind below " + kind, Edge.STATE, x -> x.addField(it, 'n'));
        }
      }
      Edge.answers(scene, "of a kind that is not above it", own, x -> x.addField(3, 'n'));
    }
  }

  // ---- promises 4 and 5

  private static void fieldsOfRefusesKindsThatAreNotThere() {
    Edge.says(4, "Throws `IndexOutOfBoundsException` if there is no such kind");
    refusesKinds("fieldsOf", (x, kind) -> x.fieldsOf(kind));
    Edge.answers(Scene.FULL, "none", 0, x -> x.fieldsOf(0));
    Edge.answers(Scene.FULL, "six", 6, x -> x.fieldsOf(4));
    Edge.refuses(Scene.FULL, "kind 8 of a full database", Edge.INDEX, x -> x.fieldsOf(8));
  }

  private static void isKindRefusesObjectsThatAreNotThere() {
    Edge.says(5, "Throws `IndexOutOfBoundsException` if there is no such object or kind", "object");
    Edge.refuses(Scene.EMPTY, "of an empty database", Edge.INDEX, x -> x.isKind(0, 0));
    for (int object : new int[] {5, 7, 8, -1, 99, 100, Edge.LEAST, Edge.GREATEST}) {
      Edge.refuses(Scene.SMALL, "object " + object, Edge.INDEX, x -> x.isKind(object, 0));
    }
    ToLongFunction<MarrowHeap> last = x -> x.isKind(6, 0) ? 1 : 0;
    Edge.answers(Scene.SMALL, "the last", 1, last);
    Edge.answers(Scene.FULL, "the last of a full database", 1, x -> x.isKind(99, 0) ? 1 : 0);
    Edge.refuses(Scene.FULL, "object 100 of a full database", Edge.INDEX, x -> x.isKind(100, 0));
  }

  private static void isKindRefusesKindsThatAreNotThere() {
    Edge.says(5, "Throws `IndexOutOfBoundsException` if there is no such object or kind", "kind");
    for (int kind : new int[] {3, -1, 8, Edge.LEAST, Edge.GREATEST}) {
      Edge.refuses(Scene.SMALL, "kind " + kind, Edge.INDEX, x -> x.isKind(0, kind));
    }
    Edge.answers(Scene.SMALL, "the last kind", 1, x -> x.isKind(4, 2) ? 1 : 0);
    Edge.answers(Scene.FULL, "the last kind of a full database", 0, x -> x.isKind(0, 7) ? 1 : 0);
    Edge.refuses(Scene.FULL, "kind 8 of a full database", Edge.INDEX, x -> x.isKind(0, 8));
  }

  // ---- terms

  private static void kindsAndFieldsAreNumberedFromZero() {
    Edge.says(Edge.TERMS, "At most 8 kinds and 20 fields are numbered from 0.");
    MarrowHeap x = new MarrowHeap();
    int field = 0;
    for (int kind = 0; kind < 8; kind++) {
      Edge.same("kind", x.addKind(-1, false), kind);
      for (int i = 0; i < (kind < 4 ? 3 : 2); i++) {
        Edge.same("field", x.addField(kind, 'n'), field);
        field++;
      }
    }
    Edge.same("fields", field, 20);
    Edge.refusesHere(x, "the ninth kind", Edge.STATE, () -> x.addKind(-1, false));
    Edge.refusesHere(x, "the twenty-first field", Edge.STATE, () -> x.addField(7, 'n'));
    x.begin(0);
    x.make(0, 7);
    Edge.same("the last field", x.number(0, 0, 19), 0);
    Edge.fails("behind it", Edge.ELEMENT, () -> x.number(0, 0, 20));
  }

  private static void fieldsOfAKindAreThoseAboveToo() {
    Edge.says(Edge.TERMS, "A kind has the fields that were added to it, and those of its parent, of the parent of "
        + "this, and so on.");
    MarrowHeap x = new MarrowHeap();
    for (int kind = 0; kind < 8; kind++) {
      x.addKind(kind - 1, false);
    }
    x.addField(7, 'n');
    for (int kind = 0; kind < 8; kind++) {
      Edge.same("kind " + kind, x.fieldsOf(kind), kind == 7 ? 1 : 0);
    }
    x.addField(3, 'n');
    for (int kind = 0; kind < 8; kind++) {
      Edge.same("then kind " + kind, x.fieldsOf(kind), kind == 7 ? 2 : kind >= 3 ? 1 : 0);
    }
    x.addField(0, 'n');
    for (int kind = 0; kind < 8; kind++) {
      Edge.same("at last kind " + kind, x.fieldsOf(kind), kind == 7 ? 3 : kind >= 3 ? 2 : 1);
    }
    x.begin(0);
    x.make(0, 7);
    for (int field = 0; field < 3; field++) {
      Edge.same("its field " + field, x.setNumber(0, 0, field, field + 1), 0);
    }
    for (int field = 0; field < 3; field++) {
      Edge.same("is its own: " + field, x.number(0, 0, field), field + 1);
    }
    kindsThatCameLaterHaveThemToo();
  }

  private static void kindsThatCameLaterHaveThemToo() {
    MarrowHeap x = fields(3);
    for (int kind = 1; kind < 8; kind++) {
      x.addKind(kind - 1, false);
      Edge.same("fields of kind " + kind, x.fieldsOf(kind), 3);
    }
    x.begin(0);
    for (int kind = 1; kind < 8; kind++) {
      int object = x.make(0, kind);
      Edge.same("size", x.sizeOf(object), 4);
      Edge.same("a number", x.setNumber(0, object, 0, 5), 0);
      Edge.same("a reference", x.link(0, object, 1, object), -1);
      Edge.same("a weak one", x.link(0, object, 2, 0), -1);
      Edge.same("the number then", x.number(0, object, 0), 5);
      Edge.same("the reference then", x.follow(0, object, 1), object);
      Edge.same("the weak one then", x.follow(0, object, 2), 0);
      Edge.fails("the number is no reference", Edge.ELEMENT, () -> x.follow(0, object, 0));
      Edge.fails("the weak one is no number", Edge.ELEMENT, () -> x.number(0, object, 2));
      Edge.fails("no field more", Edge.ELEMENT, () -> x.number(0, object, 3));
    }
  }

  private static void objectsHaveTheFieldsOfTheirTime() {
    Edge.says(Edge.TERMS, "An object has the fields that its kind had when it was made or converted last; where it "
        + "lacks one, this is 0, or refers to none.");
    MarrowHeap x = fields(0, 0);
    x.addIndex(0, x.addField(1, 'n'), -1, -1);
    x.begin(0);
    x.make(0, 0);
    int number = x.addField(0, 'n');
    int strong = x.addField(0, 'r');
    int weak = x.addField(0, 'w');
    int byNumber = x.addIndex(0, number, -1, -1);
    int byReference = x.addIndex(0, strong, number, -1);
    Edge.same("has none of them", x.sizeOf(0), 1);
    Edge.same("the number is 0", x.countOf(byNumber, 0), 1);
    Edge.same("the same anew", x.countAnew(byNumber, 0), 1);
    Edge.same("the reference refers to none", x.countOf(byReference, 0), 0);
    Edge.same("converted, it is 0", x.number(0, 0, number), 0);
    Edge.same("none", x.follow(0, 0, strong), -1);
    Edge.same("none, weakly", x.follow(0, 0, weak), -1);
    Edge.same("has them now", x.sizeOf(0), 4);
    x.addField(0, 'n');
    Edge.same("as when it was converted last", x.sizeOf(0), 4);
  }

  private static void sizesGoFromOneToSeven() {
    Edge.says(Edge.TERMS, "The size of an object is 1 more than the number of fields that it has.");
    for (int count = 0; count <= 6; count++) {
      MarrowHeap x = fields(count);
      x.begin(0);
      x.make(0, 0);
      Edge.same("size with " + count, x.sizeOf(0), count + 1);
      Edge.same("used", x.usedOf(0), count + 1);
    }
  }

  private static void metObjectsHaveAllFields() {
    Edge.says(Edge.TERMS, "An object is met when a transaction reads or changes a field of it: if it lacks fields of "
        + "its kind, it is converted first, and has all of them then.");
    Scene lacking = Scene.of(() -> {
      MarrowHeap x = fields(2);
      x.begin(0);
      x.make(0, 0);
      x.make(0, 0);
      for (int i = 2; i < 6; i++) {
        x.addField(0, 'n');
      }
      return x;
    });
    ToLongFunction<MarrowHeap> set = x -> x.setNumber(0, 0, 0, 3);
    ToLongFunction<MarrowHeap> read = x -> x.number(0, 0, 0);
    ToLongFunction<MarrowHeap> link = x -> x.link(0, 0, 1, 1) + 1;
    ToLongFunction<MarrowHeap> follow = x -> x.follow(0, 0, 1) + 1;
    for (ToLongFunction<MarrowHeap> call : java.util.List.of(set, read, link, follow)) {
      MarrowHeap x = Edge.answers(lacking, "met by an old field", 0, call);
      Edge.yes("converted", x.isConverted(0));
      Edge.same("size", x.sizeOf(0), 7);
      Edge.no("the other is not met", x.isConverted(1));
    }
    for (ToLongFunction<MarrowHeap> call : java.util.List.<ToLongFunction<MarrowHeap>>of(x -> x.lock(0, 0),
        x -> x.setRoot(0, 0, 0) + 1, x -> x.link(0, 1, 1, 0) + 1)) {
      MarrowHeap x = Edge.answers(lacking, "not met", 0, call);
      Edge.no("not converted", x.isConverted(0));
    }
    Scene atSix = Scene.of(() -> {
      MarrowHeap x = lacking.fresh();
      x.number(0, 0, 5);
      return x;
    });
    Edge.refuses(atSix, "a field it has not by its kind", Edge.ELEMENT, x -> x.number(0, 1, 6));
  }
}
