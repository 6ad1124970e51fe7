/** Promises 38 to 40. Fields: 0 'n' and 1 'r' of kind 0, 2 'w' and 3 'r' of kind 1 below it, 4 'n' of kind 2 beside them. */
public final class IndexesTest {
  private static final Class<IllegalArgumentException> ARGUMENT = IllegalArgumentException.class;
  private static final Class<IndexOutOfBoundsException> INDEX = IndexOutOfBoundsException.class;
  private static final Class<IllegalStateException> STATE = IllegalStateException.class;

  public static void main(String[] args) {
    addIndexNumbers();
    addIndexRefuses();
    countsRefuse();
    ownNumber();
    kindsBelow();
    pathOfTwo();
    pathOfThree();
    kindWithoutTheNextField();
    firstFieldOfAKindBelow();
    unconvertedObjects();
    openTransactionsCount();
    freedObjectsDoNot();
    addedLate();
    strangeValues();
    Check.end("IndexesTest");
  }

  private static MarrowHeap fresh() {
    MarrowHeap x = new MarrowHeap();
    x.addKind(-1, false);
    x.addKind(0, false);
    x.addKind(-1, false);
    x.addField(0, 'n');
    x.addField(0, 'r');
    x.addField(1, 'w');
    x.addField(1, 'r');
    x.addField(2, 'n');
    x.begin(0);
    return x;
  }

  private static void count(MarrowHeap x, int index, int value, int due) {
    Check.same("countOf(" + index + ", " + value + ")", x.countOf(index, value), due);
    Check.same("countAnew(" + index + ", " + value + ")", x.countAnew(index, value), due);
    Check.yes("sound", x.isSound());
  }

  private static void addIndexNumbers() {
    MarrowHeap x = fresh();
    Check.same("one", x.addIndex(0, 0, -1, -1), 0);
    Check.same("two", x.addIndex(1, 1, 0, -1), 1);
    Check.same("three", x.addIndex(1, 3, 1, 0), 2);
    Check.fails("four", STATE, () -> x.addIndex(0, 0, -1, -1));
    Check.fails("a wrong path comes first", ARGUMENT, () -> x.addIndex(0, 1, -1, -1));
    Check.fails("no kind comes first", INDEX, () -> x.addIndex(3, 1, -1, -1));
  }

  private static void addIndexRefuses() {
    MarrowHeap x = fresh();
    Check.fails("kind 3 before the path", INDEX, () -> x.addIndex(3, 9, 9, 9));
    Check.fails("kind -1", INDEX, () -> x.addIndex(-1, 0, -1, -1));
    int[][] wrong = {{-1, -1, -1}, {1, -1, -1}, {2, -1, -1}, {5, -1, -1}, {-2, -1, -1}, {-1, 0, -1}, {-1, -1, 0},
        {0, -1, 0}, {1, -1, 0}, {-1, 1, 0}, {0, 0, -1}, {1, 1, -1}, {2, 0, -1}, {1, 2, -1}, {1, 5, -1}, {5, 0, -1},
        {1, -2, -1}, {0, -2, -1}, {0, 1, 0}, {1, 0, 0}, {1, 1, 1}, {1, 1, 2}, {2, 1, 0}, {1, 2, 0}, {1, 1, 5},
        {1, 5, 0}, {5, 1, 0}, {1, 1, -2}, {1, 0, -2}, {0, -1, -2}, {0, Integer.MAX_VALUE, Integer.MIN_VALUE}};
    for (int[] path : wrong) {
      String name = path[0] + " " + path[1] + " " + path[2];
      Check.fails("path " + name, ARGUMENT, () -> x.addIndex(0, path[0], path[1], path[2]));
    }
    Check.fails("none was added", INDEX, () -> x.countOf(0, 0));
  }

  private static void countsRefuse() {
    MarrowHeap x = fresh();
    for (int indexes = 0; indexes < 3; indexes++) {
      for (int index : new int[] {-1, indexes, 3, Integer.MAX_VALUE, Integer.MIN_VALUE}) {
        if (index != indexes - 1 && index >= indexes || index < 0) {
          Check.fails("countOf", INDEX, () -> x.countOf(index, 0));
          Check.fails("countAnew", INDEX, () -> x.countAnew(index, 0));
        }
      }
      x.addIndex(0, 0, -1, -1);
    }
  }

  private static void ownNumber() {
    MarrowHeap x = fresh();
    x.addIndex(0, 0, -1, -1);
    count(x, 0, 0, 0);
    x.make(0, 0);
    x.make(0, 0);
    count(x, 0, 0, 2);
    x.setNumber(0, 0, 0, 7);
    count(x, 0, 0, 1);
    count(x, 0, 7, 1);
    x.setNumber(0, 1, 0, 7);
    count(x, 0, 7, 2);
    x.make(0, 2);
    count(x, 0, 0, 0);
  }

  private static void kindsBelow() {
    MarrowHeap x = fresh();
    x.addIndex(0, 0, -1, -1);
    x.addIndex(1, 0, -1, -1);
    x.make(0, 0);
    x.make(0, 1);
    x.setNumber(0, 1, 0, 3);
    count(x, 0, 3, 1);
    count(x, 1, 3, 1);
    count(x, 0, 0, 1);
    count(x, 1, 0, 0);
  }

  private static void pathOfTwo() {
    MarrowHeap x = fresh();
    x.addIndex(0, 1, 0, -1);
    x.make(0, 0);
    x.make(0, 0);
    x.make(0, 0);
    count(x, 0, 0, 0);
    x.link(0, 0, 1, 1);
    count(x, 0, 0, 1);
    x.link(0, 2, 1, 1);
    x.setNumber(0, 1, 0, 4);
    count(x, 0, 4, 2);
    count(x, 0, 0, 0);
    x.setNumber(0, 0, 0, 4);
    count(x, 0, 4, 2);
    x.link(0, 1, 1, 1);
    count(x, 0, 4, 3);
    x.link(0, 0, 1, -1);
    count(x, 0, 4, 2);
  }

  private static void pathOfThree() {
    MarrowHeap x = fresh();
    x.addIndex(1, 3, 1, 0);
    x.make(0, 1);
    x.make(0, 0);
    x.make(0, 0);
    x.link(0, 0, 3, 1);
    count(x, 0, 0, 0);
    x.link(0, 1, 1, 2);
    count(x, 0, 0, 1);
    x.setNumber(0, 2, 0, -5);
    count(x, 0, -5, 1);
    x.link(0, 0, 1, 2);
    x.link(0, 0, 3, -1);
    count(x, 0, -5, 0);
    x.link(0, 0, 3, 0);
    count(x, 0, -5, 1);
  }

  private static void kindWithoutTheNextField() {
    MarrowHeap x = fresh();
    x.addIndex(0, 1, 4, -1);
    x.addIndex(0, 1, 3, 0);
    x.make(0, 0);
    x.make(0, 1);
    x.make(0, 2);
    x.link(0, 0, 1, 1);
    count(x, 0, 0, 0);
    x.link(0, 1, 3, 1);
    count(x, 1, 0, 1);
    x.link(0, 0, 1, 2);
    count(x, 0, 0, 1);
    count(x, 1, 0, 0);
    x.link(0, 0, 1, 0);
    count(x, 0, 0, 0);
    count(x, 1, 0, 0);
  }

  private static void firstFieldOfAKindBelow() {
    MarrowHeap x = fresh();
    Check.same("index", x.addIndex(0, 3, 0, -1), 0);
    Check.same("index of a kind beside", x.addIndex(0, 4, -1, -1), 1);
    x.make(0, 0);
    x.make(0, 1);
    x.make(0, 2);
    x.link(0, 0, 1, 0);
    x.link(0, 1, 1, 0);
    count(x, 0, 0, 0);
    x.link(0, 1, 3, 0);
    count(x, 0, 0, 1);
    count(x, 1, 0, 0);
  }

  private static void unconvertedObjects() {
    MarrowHeap x = fresh();
    x.make(0, 0);
    x.make(0, 0);
    x.link(0, 0, 1, 1);
    x.addField(0, 'n');
    x.addField(0, 'r');
    x.addIndex(0, 5, -1, -1);
    x.addIndex(0, 1, 5, -1);
    x.addIndex(0, 6, 0, -1);
    count(x, 0, 0, 2);
    count(x, 1, 0, 1);
    count(x, 2, 0, 0);
    x.number(0, 0, 5);
    count(x, 0, 0, 2);
    count(x, 2, 0, 0);
    x.setNumber(0, 1, 5, 6);
    x.link(0, 1, 6, 0);
    count(x, 0, 6, 1);
    count(x, 1, 6, 1);
    count(x, 2, 0, 1);
    Check.yes("converted", x.isConverted(1));
  }

  private static void openTransactionsCount() {
    MarrowHeap x = fresh();
    x.addIndex(0, 1, 0, -1);
    x.make(0, 0);
    x.make(0, 0);
    x.link(0, 0, 1, 1);
    x.setRoot(0, 0, 0);
    count(x, 0, 0, 1);
    x.commit(0);
    count(x, 0, 0, 1);
    x.begin(0);
    x.lock(0, 0);
    x.setNumber(0, 1, 0, 9);
    x.make(0, 0);
    x.link(0, 2, 1, 1);
    count(x, 0, 9, 2);
    x.abort(0);
    count(x, 0, 9, 0);
    count(x, 0, 0, 1);
    x.begin(0);
    x.lock(0, 0);
    x.setNumber(0, 1, 0, 9);
    x.crash(0, 1);
    count(x, 0, 9, 0);
    count(x, 0, 0, 1);
    x.begin(0);
    x.lock(0, 0);
    x.setNumber(0, 1, 0, 9);
    x.crash(0, 2);
    count(x, 0, 9, 1);
  }

  private static void freedObjectsDoNot() {
    MarrowHeap x = fresh();
    x.addIndex(0, 1, 0, -1);
    x.addIndex(0, 0, -1, -1);
    x.make(0, 0);
    x.make(0, 0);
    x.link(0, 1, 1, 0);
    x.commit(0);
    count(x, 0, 0, 1);
    x.collect(2);
    Check.no("the target is freed", x.exists(0));
    Check.yes("the other is not yet", x.exists(1));
    count(x, 0, 0, 0);
    count(x, 1, 0, 1);
    x.collect(1);
    count(x, 1, 0, 0);
  }

  private static void addedLate() {
    MarrowHeap x = fresh();
    x.make(0, 0);
    x.make(0, 1);
    x.setNumber(0, 1, 0, 2);
    x.link(0, 0, 1, 1);
    x.addIndex(0, 1, 0, -1);
    count(x, 0, 2, 1);
    x.addIndex(0, 0, -1, -1);
    count(x, 1, 2, 1);
    count(x, 1, 0, 1);
  }

  private static void strangeValues() {
    MarrowHeap x = fresh();
    x.addIndex(0, 1, 0, -1);
    x.addIndex(0, 0, -1, -1);
    x.make(0, 0);
    for (int value : new int[] {Integer.MIN_VALUE, Integer.MAX_VALUE, -1, 1, 10000, -10000}) {
      count(x, 0, value, 0);
      count(x, 1, value, 0);
    }
  }
}
