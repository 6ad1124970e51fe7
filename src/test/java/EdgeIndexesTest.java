import java.util.function.ObjIntConsumer;

/** The edges of the promises 38 to 40, and of what the terms say of indexes. */
public final class EdgeIndexesTest {
  private static final String WRONG_PATH = "Throws `IllegalArgumentException` if the path is wrong: its last field must "
      + "be of the type 'n', all others of the type 'r'; there is none behind a -1";
  private static final String NO_INDEX = "Throws `IndexOutOfBoundsException` if there is no such index";
  private static final String NOT_THERE = "It does not stand there if a reference refers to none, or to an object that "
      + "is not there any more, or whose kind does not have the next field.";

  /** The fields: 0 'n', 1 'r', 2 'w' of kind 0; 3 'n', 4 'r' of kind 1 below it; 5 'n' of kind 2. */
  private static final String TYPES = "nrwnrn";

  public static void main(String[] args) {
    addIndexTakesOneToThreeFields();
    addIndexRefusesKindsThatAreNotThere();
    addIndexRefusesOtherLastFields();
    addIndexRefusesOtherFieldsBetween();
    addIndexRefusesFieldsBehindNone();
    addIndexTriesAllPaths();
    addIndexOfTwentyFields();
    addIndexRefusesTheFourth();
    countOfRefusesIndexesThatAreNotThere();
    countOfTakesAnyValue();
    countAnewRefusesIndexesThatAreNotThere();
    countAnewTakesAnyValue();
    objectsOfItsKindAndBelowStand();
    noneStandsOverNoReference();
    noneStandsOverWhatIsNotThere();
    noneStandsOverAKindWithoutTheField();
    whatIsThereNowCounts();
    Check.end("EdgeIndexesTest");
  }

  private static MarrowHeap base() {
    MarrowHeap x = new MarrowHeap();
    x.addKind(-1, false);
    x.addKind(0, false);
    x.addKind(-1, false);
    for (int field = 0; field < TYPES.length(); field++) {
      x.addField(field < 3 ? 0 : field < 5 ? 1 : 2, TYPES.charAt(field));
    }
    return x;
  }

  private static final Scene BASE = Scene.of(EdgeIndexesTest::base);

  private static Scene indexes(int count) {
    return Scene.of(() -> {
      MarrowHeap x = base();
      for (int i = 0; i < count; i++) {
        x.addIndex(0, 0, -1, -1);
      }
      return x;
    });
  }

  private static void count(MarrowHeap x, String what, int index, int value, int due) {
    Edge.same(what + ", kept", x.countOf(index, value), due);
    Edge.same(what + ", anew", x.countAnew(index, value), due);
  }

  private static char type(int field) {
    return field >= 0 && field < TYPES.length() ? TYPES.charAt(field) : '-';
  }

  // ---- promise 38

  private static void addIndexTakesOneToThreeFields() {
    Edge.says(38, "`second`: the second one, or -1");
    Edge.answers(BASE, "one", 0, x -> x.addIndex(0, 0, -1, -1));
    Edge.answers(BASE, "two", 0, x -> x.addIndex(0, 1, 0, -1));
    Edge.says(38, "`third`: the third one, or -1");
    Edge.answers(BASE, "three", 0, x -> x.addIndex(0, 1, 1, 0));
    Edge.answers(BASE, "the last fields", 0, x -> x.addIndex(2, 4, 1, 5));
    Edge.answers(indexes(2), "the third index", 2, x -> x.addIndex(1, 4, 4, 3));
  }

  private static void addIndexRefusesKindsThatAreNotThere() {
    Edge.says(38, "Throws `IndexOutOfBoundsException` if there is no such kind");
    for (int kind : new int[] {3, -1, 8, Edge.LEAST, Edge.GREATEST}) {
      Edge.refuses(BASE, "kind " + kind, Edge.INDEX, x -> x.addIndex(kind, 0, -1, -1));
      Edge.refuses(Scene.EMPTY, "kind " + kind + " of none", Edge.INDEX, x -> x.addIndex(kind, 0, -1, -1));
    }
    Edge.refuses(Scene.EMPTY, "kind 0 of none", Edge.INDEX, x -> x.addIndex(0, 0, -1, -1));
    Edge.refuses(Scene.FULL, "kind 8 of a full database", Edge.INDEX, x -> x.addIndex(8, 0, -1, -1));
    Edge.answers(BASE, "the last kind", 0, x -> x.addIndex(2, 5, -1, -1));
  }

  private static void addIndexRefusesOtherLastFields() {
    Edge.says(38, WRONG_PATH, "its last field must be of the type 'n'");
    for (int field : new int[] {1, 2, 4, 6, 19, 20, -1, -2, Edge.LEAST, Edge.GREATEST}) {
      Edge.refuses(BASE, "alone: " + field, Edge.ARGUMENT, x -> x.addIndex(0, field, -1, -1));
      if (field != -1) {
        Edge.refuses(BASE, "second: " + field, Edge.ARGUMENT, x -> x.addIndex(0, 1, field, -1));
        Edge.refuses(BASE, "third: " + field, Edge.ARGUMENT, x -> x.addIndex(0, 1, 1, field));
      }
    }
    Edge.refuses(BASE, "no field behind a reference", Edge.ARGUMENT, x -> x.addIndex(0, 1, -1, -1));
    Edge.refuses(BASE, "nor behind two", Edge.ARGUMENT, x -> x.addIndex(0, 1, 1, -1));
    Edge.refuses(Scene.of(() -> {
      MarrowHeap x = new MarrowHeap();
      x.addKind(-1, false);
      return x;
    }), "no fields at all", Edge.ARGUMENT, x -> x.addIndex(0, 0, -1, -1));
  }

  private static void addIndexRefusesOtherFieldsBetween() {
    Edge.says(38, WRONG_PATH, "all others of the type 'r'");
    for (int field : new int[] {0, 2, 3, 5, 6, 20, -1, -2, Edge.LEAST, Edge.GREATEST}) {
      Edge.refuses(BASE, "first of two: " + field, Edge.ARGUMENT, x -> x.addIndex(0, field, 0, -1));
      Edge.refuses(BASE, "first of three: " + field, Edge.ARGUMENT, x -> x.addIndex(0, field, 1, 0));
      Edge.refuses(BASE, "second of three: " + field, Edge.ARGUMENT, x -> x.addIndex(0, 1, field, 0));
    }
  }

  private static void addIndexRefusesFieldsBehindNone() {
    Edge.says(38, WRONG_PATH, "there is none behind a -1");
    for (int field : new int[] {0, 1, 5, -2, Edge.LEAST, Edge.GREATEST}) {
      Edge.refuses(BASE, "third behind a second -1: " + field, Edge.ARGUMENT, x -> x.addIndex(0, 0, -1, field));
      Edge.refuses(BASE, "behind a reference: " + field, Edge.ARGUMENT, x -> x.addIndex(0, 1, -1, field));
      Edge.refuses(BASE, "second behind a first -1: " + field, Edge.ARGUMENT, x -> x.addIndex(0, -1, field, -1));
      Edge.refuses(BASE, "third behind two: " + field, Edge.ARGUMENT, x -> x.addIndex(0, -1, -1, field));
    }
    Edge.refuses(BASE, "all -1", Edge.ARGUMENT, x -> x.addIndex(0, -1, -1, -1));
  }

  /** Each path over -2 to 6, looked at by the words alone. */
  private static void addIndexTriesAllPaths() {
    Edge.says(38, WRONG_PATH);
    for (int first = -2; first <= 6; first++) {
      for (int second = -2; second <= 6; second++) {
        for (int third = -2; third <= 6; third++) {
          boolean one = type(first) == 'n' && second == -1 && third == -1;
          boolean two = type(first) == 'r' && type(second) == 'n' && third == -1;
          boolean three = type(first) == 'r' && type(second) == 'r' && type(third) == 'n';
          MarrowHeap x = base();
          int[] path = {first, second, third};
          String what = first + " " + second + " " + third;
          if (one || two || three) {
            Edge.same(what, x.addIndex(0, path[0], path[1], path[2]), 0);
          } else {
            Edge.fails(what, Edge.ARGUMENT, () -> x.addIndex(0, path[0], path[1], path[2]));
            Edge.fails(what + " was not added", Edge.INDEX, () -> x.countOf(0, 0));
          }
        }
      }
    }
  }

  /** Fields 0 to 17 are of three kinds, 18 'r' and 19 'n' of the fourth. */
  private static void addIndexOfTwentyFields() {
    Edge.says(38, WRONG_PATH, "its last field must be of the type 'n'");
    Scene twenty = Scene.of(() -> {
      MarrowHeap x = new MarrowHeap();
      for (int kind = 0; kind < 4; kind++) {
        x.addKind(-1, false);
      }
      for (int field = 0; field < 20; field++) {
        x.addField(field / 6, field == 18 ? 'r' : 'n');
      }
      return x;
    });
    Edge.answers(twenty, "the last field", 0, x -> x.addIndex(3, 19, -1, -1));
    Edge.answers(twenty, "the last field behind a reference", 0, x -> x.addIndex(3, 18, 19, -1));
    Edge.answers(twenty, "the last field behind two", 0, x -> x.addIndex(3, 18, 18, 19));
    for (Scene scene : new Scene[] {twenty, Scene.FULL}) {
      int reference = scene == twenty ? 18 : 2;
      for (int field : new int[] {20, 21, 99, Edge.GREATEST}) {
        Edge.refuses(scene, "alone: " + field, Edge.ARGUMENT, x -> x.addIndex(0, field, -1, -1));
        Edge.refuses(scene, "second: " + field, Edge.ARGUMENT, x -> x.addIndex(0, reference, field, -1));
        Edge.refuses(scene, "third: " + field, Edge.ARGUMENT, x -> x.addIndex(0, reference, reference, field));
        Edge.refuses(scene, "first of two: " + field, Edge.ARGUMENT, x -> x.addIndex(0, field, 0, -1));
      }
    }
  }

  private static void addIndexRefusesTheFourth() {
    Edge.says(38, "Throws `IllegalStateException` if there are 3 indexes");
    for (int count = 0; count < 3; count++) {
      Edge.answers(indexes(count), "index " + count, count, x -> x.addIndex(0, 0, -1, -1));
    }
    Edge.refuses(indexes(3), "the fourth", Edge.STATE, x -> x.addIndex(0, 0, -1, -1));
    Edge.refuses(indexes(3), "another one", Edge.STATE, x -> x.addIndex(1, 4, 1, 0));
    Edge.refuses(Scene.FULL, "full", Edge.STATE, x -> x.addIndex(1, 0, -1, -1));
  }

  // ---- promises 39 and 40

  private static void refusesIndexes(ObjIntConsumer<MarrowHeap> it) {
    for (int count = 0; count <= 3; count++) {
      for (int index : new int[] {count, count + 1, 3, -1, -2, Edge.LEAST, Edge.GREATEST}) {
        Edge.refuses(indexes(count), "index " + index + " of " + count, Edge.INDEX, x -> it.accept(x, index));
      }
      for (int index = 0; index < count; index++) {
        int there = index;
        Edge.answers(indexes(count), "index " + index + " of " + count, 0, x -> {
          it.accept(x, there);
          return 0;
        });
      }
    }
    Edge.refuses(Scene.EMPTY, "empty", Edge.INDEX, x -> it.accept(x, 0));
    Edge.refuses(Scene.FULL, "index 3 of a full database", Edge.INDEX, x -> it.accept(x, 3));
  }

  private static void countOfRefusesIndexesThatAreNotThere() {
    Edge.says(39, NO_INDEX);
    refusesIndexes((x, index) -> x.countOf(index, 0));
  }

  private static void countAnewRefusesIndexesThatAreNotThere() {
    Edge.says(40, NO_INDEX);
    refusesIndexes((x, index) -> x.countAnew(index, 0));
  }

  private static void takesAnyValue() {
    int[] values = {-9999, -1, 0, 1, 9999};
    for (int value : values) {
      MarrowHeap x = base();
      x.addIndex(0, 0, -1, -1);
      x.addIndex(0, 1, 0, -1);
      x.begin(0);
      x.make(0, 0);
      x.make(0, 0);
      x.setNumber(0, 0, 0, value);
      x.link(0, 1, 1, 0);
      for (int asked : new int[] {-10000, -9999, -1, 0, 1, 9999, 10000, 10001, Edge.LEAST, Edge.GREATEST}) {
        String what = "value " + value + ", asked " + asked;
        count(x, what, 0, asked, (asked == value ? 1 : 0) + (asked == 0 ? 1 : 0));
        count(x, what + ", over a reference", 1, asked, asked == value ? 1 : 0);
      }
    }
    for (int asked : new int[] {0, 10000, Edge.LEAST, Edge.GREATEST}) {
      count(indexes(1).fresh(), "no object, asked " + asked, 0, asked, 0);
    }
  }

  private static void countOfTakesAnyValue() {
    Edge.says(39, "Returns how many objects stand in an index with a value, as it is kept.");
    takesAnyValue();
    Edge.answers(Scene.FULL, "full: numbers of kind 1", 4 + 2 * 8, x -> x.countOf(0, 0));
    Edge.answers(Scene.FULL, "full: numbers of kind 2", 12, x -> x.countOf(1, 0));
    Edge.answers(Scene.FULL, "full: over a reference", 7, x -> x.countOf(2, 0));
  }

  private static void countAnewTakesAnyValue() {
    Edge.says(40, "Returns the same number, found by going through all objects.");
    takesAnyValue();
    Edge.answers(Scene.FULL, "full: numbers of kind 1", 4 + 2 * 8, x -> x.countAnew(0, 0));
    Edge.answers(Scene.FULL, "full: numbers of kind 2", 12, x -> x.countAnew(1, 0));
    Edge.answers(Scene.FULL, "full: over a reference", 7, x -> x.countAnew(2, 0));
  }

  // ---- terms

  private static void objectsOfItsKindAndBelowStand() {
    Edge.says(Edge.TERMS, "In an index by a path, each object of its kind, or of one below, stands with the number to "
        + "which the path leads from it: over the references that its first fields tell, to the number of the last "
        + "one.");
    MarrowHeap x = base();
    x.addIndex(0, 0, -1, -1);
    x.addIndex(1, 0, -1, -1);
    x.addIndex(0, 1, 1, 0);
    x.begin(0);
    x.make(0, 0);
    x.make(0, 1);
    x.make(0, 2);
    count(x, "of kind 0 and below", 0, 0, 2);
    count(x, "of kind 1", 1, 0, 1);
    count(x, "over none", 2, 0, 0);
    x.setNumber(0, 1, 0, 5);
    count(x, "the number of 1", 0, 5, 1);
    count(x, "the number of 1, which is of kind 1", 1, 5, 1);
    x.link(0, 0, 1, 1);
    count(x, "over one of two", 2, 5, 0);
    x.link(0, 1, 1, 1);
    count(x, "over two, from 0 and from 1", 2, 5, 2);
    x.link(0, 1, 1, 0);
    count(x, "back to 0: from 0", 2, 0, 1);
    count(x, "and to 1: from 1", 2, 5, 1);
    threeDifferentFields();
  }

  private static void threeDifferentFields() {
    MarrowHeap x = base();
    x.addIndex(0, 1, 4, 5);
    x.addIndex(1, 4, 1, 3);
    x.addIndex(1, 4, 5, -1);
    x.begin(0);
    x.make(0, 0);
    x.make(0, 1);
    x.make(0, 2);
    x.link(0, 0, 1, 1);
    x.link(0, 1, 4, 2);
    x.setNumber(0, 0, 0, 1);
    x.setNumber(0, 1, 0, 2);
    x.setNumber(0, 1, 3, 3);
    x.setNumber(0, 2, 5, 4);
    count(x, "from 0 over 1 to field 5 of 2", 0, 4, 1);
    count(x, "from 1 to field 5 of 2", 2, 4, 1);
    count(x, "from 1 over 2, which has no field 1", 1, 3, 0);
    x.link(0, 1, 4, 0);
    count(x, "from 1 over 0 to field 3 of 1", 1, 3, 1);
    count(x, "0 has no field 5", 0, 4, 0);
    count(x, "nor from 1", 2, 4, 0);
    for (int index = 0; index < 3; index++) {
      count(x, "not by field 0", index, 1, 0);
      count(x, "nor that of 1", index, 2, 0);
    }
  }

  private static void noneStandsOverNoReference() {
    Edge.says(Edge.TERMS, NOT_THERE, "if a reference refers to none");
    MarrowHeap x = base();
    x.addIndex(0, 1, 0, -1);
    x.addIndex(0, 1, 1, 0);
    x.begin(0);
    x.make(0, 0);
    x.make(0, 0);
    x.make(0, 0);
    count(x, "none yet", 0, 0, 0);
    x.link(0, 0, 1, 1);
    count(x, "the first reference", 0, 0, 1);
    count(x, "the second refers to none", 1, 0, 0);
    x.link(0, 1, 1, 2);
    count(x, "both", 1, 0, 1);
    x.link(0, 0, 1, -1);
    count(x, "the first refers to none again", 1, 0, 0);
    count(x, "1 stands still", 0, 0, 1);
    x.link(0, 1, 1, -1);
    count(x, "nor 1", 0, 0, 0);
    x.addField(0, 'r');
    x.addIndex(0, 6, 0, -1);
    count(x, "a reference that objects lack", 2, 0, 0);
    x.link(0, 0, 6, 1);
    count(x, "it is set", 2, 0, 1);
  }

  private static void noneStandsOverWhatIsNotThere() {
    Edge.says(Edge.TERMS, NOT_THERE, "or to an object that is not there any more");
    MarrowHeap x = base();
    x.addIndex(0, 1, 0, -1);
    x.addIndex(0, 1, 1, 0);
    x.addIndex(0, 0, -1, -1);
    x.begin(0);
    for (int i = 0; i < 4; i++) {
      x.make(0, 0);
    }
    x.link(0, 3, 1, 2);
    x.link(0, 2, 1, 0);
    x.link(0, 1, 1, 3);
    x.commit(0);
    count(x, "three over one", 0, 0, 3);
    count(x, "two over two: 3 and 1", 1, 0, 2);
    x.collect(2);
    Edge.no("0 is freed", x.exists(0));
    count(x, "2 does not stand any more", 0, 0, 2);
    count(x, "3 does not, 1 does", 1, 0, 1);
    count(x, "three are there", 2, 0, 3);
    x.collect(1);
    Edge.no("1 is freed", x.exists(1));
    count(x, "1 itself is not there", 0, 0, 1);
    count(x, "none over two", 1, 0, 0);
    x.collect(1);
    count(x, "3 refers to 2, which is freed", 0, 0, 0);
    count(x, "3 is there", 2, 0, 1);
    undoneTargets();
  }

  private static void undoneTargets() {
    MarrowHeap y = base();
    y.addIndex(0, 1, 0, -1);
    y.begin(0);
    y.make(0, 0);
    y.setRoot(0, 0, 0);
    y.commit(0);
    y.begin(0);
    y.lock(0, 0);
    y.make(0, 0);
    y.link(0, 0, 1, 1);
    count(y, "an object that is not committed", 0, 0, 1);
    y.abort(0);
    count(y, "it was undone", 0, 0, 0);
  }

  private static void noneStandsOverAKindWithoutTheField() {
    Edge.says(Edge.TERMS, NOT_THERE, "or whose kind does not have the next field");
    MarrowHeap x = base();
    x.addIndex(0, 1, 3, -1);
    x.addIndex(0, 1, 4, 0);
    x.addIndex(0, 1, 5, -1);
    x.begin(0);
    x.make(0, 0);
    x.make(0, 0);
    x.make(0, 1);
    x.make(0, 2);
    x.link(0, 0, 1, 1);
    count(x, "kind 0 does not have field 3", 0, 0, 0);
    x.link(0, 0, 1, 2);
    count(x, "kind 1 has it", 0, 0, 1);
    count(x, "but none stands over its field 4", 1, 0, 0);
    x.link(0, 2, 4, 1);
    count(x, "now 0 does", 1, 0, 1);
    x.link(0, 0, 1, 1);
    count(x, "not over a kind without field 4", 1, 0, 0);
    x.link(0, 0, 1, 3);
    count(x, "kind 2 has field 5", 2, 0, 1);
    count(x, "but not field 3", 0, 0, 0);
    count(x, "nor field 4", 1, 0, 0);
    x.link(0, 2, 4, 3);
    x.link(0, 0, 1, 2);
    count(x, "the last object's kind does not have field 0", 1, 0, 0);
    MarrowHeap first = base();
    first.addIndex(0, 3, -1, -1);
    first.begin(0);
    first.make(0, 0);
    first.make(0, 1);
    count(first, "of itself, kind 0 does not have it, the one below has", 0, 0, 1);
  }

  private static void whatIsThereNowCounts() {
    Edge.says(Edge.TERMS, "What counts is what is there now, also by open transactions.");
    MarrowHeap x = Scene.SMALL.fresh();
    count(x, "0 refers to 1, whose number is 7 now", 0, 7, 1);
    count(x, "numbers 0: 0, 2, 3 and 6", 1, 0, 4);
    x.abort(1);
    count(x, "6 is gone", 1, 0, 3);
    x.abort(0);
    count(x, "4 again", 0, 4, 1);
    count(x, "not 7", 0, 7, 0);
  }
}
