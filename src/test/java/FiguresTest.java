/** Promises 41 to 46. */
public final class FiguresTest {
  private static final Class<IndexOutOfBoundsException> INDEX = IndexOutOfBoundsException.class;
  private static final Class<ArithmeticException> ARITHMETIC = ArithmeticException.class;

  public static void main(String[] args) {
    isReachedFromRootsAlone();
    isReachedRefuses();
    unreachedCountsWhatIsNotInHand();
    changesCount();
    usedShareDivides();
    meanSizeDivides();
    staysSound();
    Check.end("FiguresTest");
  }

  /** Kind 0 with the fields 0 'n', 1 'r', 2 'w'; kind 1, below it, has an end. */
  private static MarrowHeap fresh(int objects) {
    MarrowHeap x = new MarrowHeap();
    x.addKind(-1, false);
    x.addKind(0, true);
    x.addField(0, 'n');
    x.addField(0, 'r');
    x.addField(0, 'w');
    x.begin(0);
    for (int i = 0; i < objects; i++) {
      x.make(0, 0);
    }
    return x;
  }

  private static void isReachedFromRootsAlone() {
    MarrowHeap x = fresh(4);
    Check.no("held is not reached", x.isReached(0));
    x.setRoot(0, 3, 1);
    x.link(0, 1, 1, 0);
    x.link(0, 0, 1, 2);
    x.link(0, 0, 2, 3);
    Check.yes("a root's object", x.isReached(1));
    Check.yes("over one reference", x.isReached(0));
    Check.yes("over two", x.isReached(2));
    Check.no("not over a weak one", x.isReached(3));
    x.link(0, 2, 1, 1);
    Check.yes("a ring ends", x.isReached(2));
    x.setRoot(0, 3, -1);
    Check.no("not from itself", x.isReached(1));
    x.make(0, 1);
    x.commit(0);
    x.collect(3);
    Check.same("one waits", x.ends(), 1);
    Check.no("waiting is not reached", x.isReached(4));
  }

  private static void isReachedRefuses() {
    MarrowHeap x = fresh(1);
    for (int object : new int[] {-1, 1, 100, Integer.MAX_VALUE, Integer.MIN_VALUE}) {
      Check.fails("isReached", INDEX, () -> x.isReached(object));
    }
    x.abort(0);
    Check.fails("isReached what is undone", INDEX, () -> x.isReached(0));
  }

  private static void unreachedCountsWhatIsNotInHand() {
    MarrowHeap x = fresh(3);
    x.make(0, 1);
    x.link(0, 0, 1, 1);
    x.link(0, 3, 1, 2);
    Check.same("all are held", x.unreached(), 0);
    x.setRoot(0, 0, 0);
    x.commit(0);
    Check.same("the last two", x.unreached(), 2);
    x.begin(1);
    x.lock(1, 0);
    x.setRoot(1, 0, -1);
    Check.same("held", x.unreached(), 2);
    x.abort(1);
    x.collect(4);
    Check.same("one waits", x.ends(), 1);
    Check.same("with all that it reaches", x.unreached(), 0);
    x.begin(1);
    x.lock(1, 0);
    x.setRoot(1, 0, -1);
    x.link(1, 0, 1, -1);
    x.commit(1);
    Check.same("the first two", x.unreached(), 2);
  }

  private static void changesCount() {
    MarrowHeap x = fresh(2);
    Check.same("making is none", x.changes(), 0);
    x.setNumber(0, 0, 0, 1);
    x.setNumber(0, 0, 0, 1);
    Check.same("setNumber", x.changes(), 2);
    x.link(0, 0, 1, 1);
    x.link(0, 0, 2, 1);
    x.link(0, 0, 2, -1);
    Check.same("link", x.changes(), 5);
    x.number(0, 0, 0);
    x.follow(0, 0, 1);
    x.setRoot(0, 0, 0);
    Check.fails("a value too great", IllegalArgumentException.class, () -> x.setNumber(0, 0, 0, 10000));
    Check.fails("no field", java.util.NoSuchElementException.class, () -> x.link(0, 0, 0, 1));
    Check.same("nothing else", x.changes(), 5);
    x.abort(0);
    Check.same("not undone", x.changes(), 5);
  }

  private static void usedShareDivides() {
    MarrowHeap x = fresh(0);
    Check.fails("no pages", ARITHMETIC, () -> x.usedShare());
    x.make(0, 0);
    Check.sameReal("4 of 16", x.usedShare(), 4f / 16f);
    for (int i = 0; i < 8; i++) {
      x.make(0, 0);
    }
    Check.sameReal("36 of 48, as a float", x.usedShare(), 36f / 48f);
    x.addField(0, 'n');
    x.number(0, 0, 0);
    Check.same("page", x.pageOf(0), 2);
    Check.sameReal("38 of 48: a forward counts", x.usedShare(), 38f / 48f);
    x.abort(0);
    Check.fails("no pages again", ARITHMETIC, () -> x.usedShare());
  }

  private static void meanSizeDivides() {
    MarrowHeap x = fresh(0);
    Check.fails("no objects", ARITHMETIC, () -> x.meanSize());
    x.make(0, 0);
    Check.sameReal("4", x.meanSize(), 4.0);
    x.make(0, 0);
    x.make(0, 0);
    x.addField(0, 'n');
    x.number(0, 0, 0);
    Check.sameReal("13 by 3", x.meanSize(), 13.0 / 3.0);
    x.setRoot(0, 0, 0);
    x.commit(0);
    x.collect(5);
    Check.same("freed", x.freed(), 2);
    Check.sameReal("5", x.meanSize(), 5.0);
    MarrowHeap y = fresh(2);
    y.abort(0);
    Check.fails("none are there any more", ARITHMETIC, () -> y.meanSize());
  }

  private static void staysSound() {
    MarrowHeap x = fresh(4);
    x.addIndex(0, 1, 0, -1);
    x.link(0, 0, 1, 1);
    x.link(0, 1, 1, 2);
    x.setRoot(0, 0, 0);
    Check.yes("made", x.isSound());
    x.commit(0);
    x.addField(0, 'r');
    x.begin(0);
    x.lock(0, 0);
    x.follow(0, 0, 3);
    x.link(0, 1, 3, 0);
    for (int i = 0; i < 20; i++) {
      x.collect(1);
      Check.yes("sound", x.isSound());
    }
    x.crash(-1, 0);
    Check.yes("behind a crash", x.isSound());
    for (int i = 0; i < 20; i++) {
      x.collect(1);
      Check.yes("sound", x.isSound());
    }
  }
}
