import java.util.NoSuchElementException;

/** Promises 20 to 28. Kind 0 has the fields 0 'r', 1 'w' and no end; kind 1, below it, has an end; kind 2 is below 1. */
public final class CollectorTest {
  private static final Class<IllegalArgumentException> ARGUMENT = IllegalArgumentException.class;
  private static final Class<IndexOutOfBoundsException> INDEX = IndexOutOfBoundsException.class;
  private static final Class<IllegalStateException> STATE = IllegalStateException.class;
  private static final Class<NoSuchElementException> ELEMENT = NoSuchElementException.class;
  private static final Class<UnsupportedOperationException> OPERATION = UnsupportedOperationException.class;

  public static void main(String[] args) {
    collectRefuses();
    emptyCycles();
    startColours();
    startCountsRootsIfUndone();
    markGoesFromTheLowest();
    markCountsWhatWouldBeUndone();
    markComesBackForRoots();
    markComesBackForHeldOnes();
    barrierGreysTargets();
    noBarrierElsewhere();
    newObjectsAreBlack();
    weakenLosesWhiteOnes();
    weakenIsHindered();
    endsWaitInOrder();
    endsAreInherited();
    endsBlackenWhatIsReached();
    callEndTakesTheFirst();
    callEndRefuses();
    endsAreNotUndone();
    sweepFreesAndIsHindered();
    fixGoesByObjectsAndThenForwards();
    fixIsHindered();
    crashLeavesTheCollector();
    existsTells();
    coloursAreNotUndone();
    Check.end("CollectorTest");
  }

  private static MarrowHeap fresh() {
    MarrowHeap x = new MarrowHeap();
    x.addKind(-1, false);
    x.addKind(0, true);
    x.addKind(1, false);
    x.addField(0, 'r');
    x.addField(0, 'w');
    return x;
  }

  private static MarrowHeap with(int... kinds) {
    MarrowHeap x = fresh();
    x.begin(0);
    for (int kind : kinds) {
      x.make(0, kind);
    }
    return x;
  }

  private static void step(MarrowHeap x, int count, String due) {
    Check.same("collect(1)", x.collect(1), 1);
    Check.sameText("colours", Look.colours(x, count), due);
  }

  private static void collectRefuses() {
    MarrowHeap x = new MarrowHeap();
    Check.fails("collect(0)", ARGUMENT, () -> x.collect(0));
    Check.fails("collect(-1)", ARGUMENT, () -> x.collect(-1));
    Check.fails("collect(100)", ARGUMENT, () -> x.collect(100));
    Check.same("phase", x.phase(), 'i');
    Check.same("collect(99)", x.collect(99), 99);
  }

  private static void emptyCycles() {
    MarrowHeap x = new MarrowHeap();
    Check.same("phase", x.phase(), 'i');
    Check.same("collect(1)", x.collect(1), 1);
    Check.same("behind i", x.phase(), 'm');
    Check.same("no cycle has ended", x.cycles(), 0);
    Check.same("collect(1)", x.collect(1), 1);
    Check.same("behind i again", x.phase(), 'm');
    Check.same("one cycle has ended", x.cycles(), 1);
    Check.same("collect(5)", x.collect(5), 5);
    Check.same("cycles", x.cycles(), 6);
  }

  private static void startColours() {
    MarrowHeap x = with(0, 0, 0);
    Check.sameText("white at first", Look.colours(x, 3), "www i");
    x.link(0, 0, 0, 1);
    x.setRoot(0, 0, 0);
    x.commit(0);
    x.begin(1);
    x.make(1, 0);
    Check.sameText("still white", Look.colours(x, 4), "wwww i");
    step(x, 4, "gwwg m");
    Check.fails("colourOf(4)", INDEX, () -> x.colourOf(4));
    Check.fails("colourOf(-1)", INDEX, () -> x.colourOf(-1));
    x.commit(1);
    x.collect(4);
    Check.sameText("a whole cycle on", Look.colours(x, 4), "bb-b s");
    step(x, 4, "gw-w m");
  }

  private static void startCountsRootsIfUndone() {
    MarrowHeap x = with(0, 0);
    x.setRoot(0, 3, 0);
    x.setRoot(0, 1, 1);
    x.commit(0);
    x.begin(0);
    x.lock(0, 0);
    x.begin(1);
    x.lock(1, 1);
    x.setRoot(1, 3, 1);
    x.setRoot(1, 3, -1);
    x.commit(0);
    step(x, 2, "gg m");
    x.abort(1);
    Check.same("root", x.root(3), 0);
    x.collect(8);
    Check.yes("kept for the root as undone", x.exists(0));
  }

  private static void markGoesFromTheLowest() {
    MarrowHeap x = with(0, 0, 0, 0);
    x.link(0, 3, 0, 1);
    x.link(0, 1, 0, 0);
    x.link(0, 0, 0, 3);
    x.link(0, 3, 1, 2);
    x.setRoot(0, 0, 3);
    x.commit(0);
    step(x, 4, "wwwg m");
    step(x, 4, "wgwb m");
    step(x, 4, "gbwb m");
    step(x, 4, "bbwb m");
    Check.same("phase", x.phase(), 'm');
    step(x, 4, "bbwb w");
    step(x, 4, "bb-b s");
    Check.same("cycles", x.cycles(), 0);
    step(x, 4, "ww-g m");
    Check.same("cycles", x.cycles(), 1);
    MarrowHeap y = with(0, 0, 0);
    y.setRoot(0, 0, 2);
    y.setRoot(0, 1, 0);
    y.commit(0);
    step(y, 3, "gwg m");
    step(y, 3, "bwg m");
    step(y, 3, "bwb m");
    step(y, 3, "b-b s");
  }

  private static void markCountsWhatWouldBeUndone() {
    MarrowHeap x = with(0, 0, 0);
    x.link(0, 0, 0, 1);
    x.link(0, 1, 0, 2);
    x.setRoot(0, 0, 0);
    x.commit(0);
    x.begin(0);
    x.lock(0, 0);
    x.begin(1);
    x.link(0, 0, 0, -1);
    x.setRoot(0, 0, -1);
    step(x, 3, "ggg m");
    MarrowHeap y = with(1, 0, 0);
    y.link(0, 0, 0, 1);
    y.link(0, 1, 0, 2);
    y.commit(0);
    y.collect(2);
    Check.same("waits", y.ends(), 1);
    y.begin(0);
    y.callEnd(0);
    Check.same("holds that one alone", y.heldBy(0), 1);
    y.link(0, 0, 0, -1);
    Check.same("not in hand", y.unreached(), 2);
    step(y, 3, "gww m");
    step(y, 3, "bgw m");
    step(y, 3, "bbg m");
    y.abort(0);
    step(y, 3, "bbb m");
    step(y, 3, "www m");
  }

  private static void markComesBackForRoots() {
    MarrowHeap x = with(0, 0);
    x.setRoot(0, 0, 0);
    x.setRoot(0, 1, 1);
    x.commit(0);
    x.begin(0);
    x.lock(0, 1);
    x.setRoot(0, 1, -1);
    x.commit(0);
    x.begin(0);
    x.begin(1);
    x.setRoot(1, 2, -1);
    step(x, 2, "gw m");
    step(x, 2, "bw m");
    x.lock(0, 0);
    x.abort(1);
    step(x, 2, "b- s");
    MarrowHeap y = with(0, 0);
    y.link(0, 0, 0, 1);
    y.setRoot(0, 0, 0);
    y.commit(0);
    y.begin(0);
    step(y, 2, "gw m");
    y.lock(0, 1);
    step(y, 2, "bg m");
    step(y, 2, "bb m");
    MarrowHeap z = with(1, 0);
    z.link(0, 0, 0, 1);
    z.commit(0);
    z.collect(2);
    Check.sameText("both are black", Look.colours(z, 2), "bb e");
    z.begin(0);
    step(z, 2, "gw m");
    z.lock(0, 1);
    z.callEnd(0);
    z.link(0, 0, 0, -1);
    z.commit(0);
    step(z, 2, "bw m");
    z.begin(1);
    Check.sameText("nothing more", Look.colours(z, 2), "bw m");
    step(z, 2, "b- s");
  }

  /** What a transaction holds alone can lose its last way from a grey object while it is white. */
  private static void markComesBackForHeldOnes() {
    MarrowHeap x = with(1, 0);
    x.link(0, 0, 0, 1);
    x.commit(0);
    x.collect(2);
    step(x, 2, "gw m");
    x.begin(1);
    Check.same("held alone", x.lock(1, 1), 1);
    x.begin(0);
    Check.same("the one that refers to it", x.callEnd(0), 0);
    x.link(0, 0, 0, -1);
    x.commit(0);
    step(x, 2, "bw m");
    step(x, 2, "bg m");
    step(x, 2, "bb m");
    Check.same("cycles", x.cycles(), 1);
    step(x, 2, "wg m");
    Check.same("cycles", x.cycles(), 2);
  }

  private static void barrierGreysTargets() {
    MarrowHeap x = with(0, 0, 0, 0);
    x.setRoot(0, 0, 0);
    x.link(0, 0, 0, 1);
    x.link(0, 1, 0, 2);
    x.link(0, 2, 0, 3);
    x.commit(0);
    step(x, 4, "gwww m");
    x.begin(0);
    x.lock(0, 0);
    x.link(0, 0, 1, 2);
    Check.sameText("a weak reference does not", Look.colours(x, 4), "gwww m");
    x.link(0, 0, 0, -1);
    x.setRoot(0, 1, -1);
    Check.sameText("none does not", Look.colours(x, 4), "gwww m");
    x.link(0, 0, 0, 3);
    Check.sameText("a reference does", Look.colours(x, 4), "gwwg m");
    x.setRoot(0, 1, 2);
    Check.sameText("a root does", Look.colours(x, 4), "gwgg m");
    step(x, 4, "bggg m");
    x.link(0, 0, 0, 0);
    Check.sameText("black ones stay", Look.colours(x, 4), "bggg m");
    x.setRoot(0, 2, 1);
    Check.sameText("grey ones stay", Look.colours(x, 4), "bggg m");
  }

  private static void noBarrierElsewhere() {
    MarrowHeap x = with(0, 0);
    x.link(0, 0, 0, 1);
    x.setRoot(0, 0, 1);
    Check.sameText("phase i", Look.colours(x, 2), "ww i");
  }

  private static void newObjectsAreBlack() {
    MarrowHeap x = fresh();
    x.collect(1);
    x.begin(0);
    x.make(0, 0);
    Check.sameText("phase m", Look.colours(x, 1), "b m");
    x.commit(0);
    step(x, 1, "w m");
    step(x, 1, "- s");
    x.begin(0);
    x.make(0, 0);
    Check.sameText("phase s", Look.colours(x, 2), "-b s");
    x.commit(0);
  }

  private static void weakenLosesWhiteOnes() {
    MarrowHeap x = with(0, 0, 0, 0, 0);
    x.link(0, 0, 0, 3);
    x.link(0, 3, 1, 2);
    x.link(0, 0, 1, 2);
    x.link(0, 1, 1, 4);
    x.link(0, 4, 1, 0);
    x.setRoot(0, 0, 0);
    x.commit(0);
    x.collect(3);
    Check.sameText("marked", Look.colours(x, 5), "bwwbw m");
    step(x, 5, "bwwbw w");
    x.begin(0);
    x.lock(0, 0);
    Check.same("the lowest has lost it", x.follow(0, 0, 1), -1);
    Check.same("the next not yet", x.follow(0, 3, 1), 2);
    x.commit(0);
    step(x, 5, "bwwbw w");
    step(x, 5, "bwwbw w");
    step(x, 5, "b-wbw s");
    step(x, 5, "b--bw s");
    step(x, 5, "b--b- s");
    Check.same("freed", x.freed(), 3);
    x.begin(0);
    x.lock(0, 0);
    Check.same("the last has lost it", x.follow(0, 3, 1), -1);
    twoWeakFields();
  }

  private static void twoWeakFields() {
    MarrowHeap x = fresh();
    x.addField(0, 'w');
    x.begin(0);
    x.make(0, 0);
    x.make(0, 0);
    x.make(0, 0);
    x.link(0, 0, 1, 1);
    x.link(0, 0, 2, 2);
    x.link(0, 0, 0, 0);
    x.setRoot(0, 0, 0);
    x.commit(0);
    x.collect(2);
    step(x, 3, "bww w");
    x.begin(0);
    x.lock(0, 0);
    Check.same("one", x.follow(0, 0, 1), -1);
    Check.same("and the other", x.follow(0, 0, 2), -1);
    Check.same("the strong one stays", x.follow(0, 0, 0), 0);
    x.commit(0);
    step(x, 3, "b-w s");
    MarrowHeap y = fresh();
    y.addField(0, 'w');
    y.begin(0);
    y.make(0, 0);
    y.make(0, 0);
    y.link(0, 0, 1, 1);
    y.link(0, 0, 2, 0);
    y.setRoot(0, 0, 0);
    y.commit(0);
    y.collect(3);
    y.begin(0);
    y.lock(0, 0);
    Check.same("weak to a black one stays", y.follow(0, 0, 2), 0);
    Check.same("weak to a white one goes", y.follow(0, 0, 1), -1);
  }

  private static void weakenIsHindered() {
    MarrowHeap x = with(0, 0);
    x.link(0, 0, 1, 1);
    x.setRoot(0, 0, 0);
    x.commit(0);
    x.begin(0);
    x.lock(0, 0);
    x.link(0, 0, 0, 0);
    Check.same("two steps, then hindered", x.collect(9), 2);
    Check.sameText("in w", Look.colours(x, 2), "bw w");
    Check.same("still hindered", x.collect(1), 0);
    Check.same("the weak reference is there", x.follow(0, 0, 1), 1);
    Check.same("no cycle", x.cycles(), 0);
    x.abort(0);
    step(x, 2, "bw w");
    step(x, 2, "b- s");
  }

  private static void endsWaitInOrder() {
    MarrowHeap x = with(1, 0, 1);
    x.commit(0);
    x.collect(1);
    Check.same("none waits", x.ends(), 0);
    step(x, 3, "bww e");
    Check.same("one waits", x.ends(), 1);
    step(x, 3, "bwb e");
    Check.same("two wait", x.ends(), 2);
    step(x, 3, "b-b s");
    step(x, 3, "g-g m");
    x.collect(2);
    Check.sameText("they are kept", Look.colours(x, 3), "b-b m");
    step(x, 3, "g-g m");
    Check.same("they do not wait twice", x.ends(), 2);
    Check.no("not ended", x.isEnded(0));
  }

  private static void endsAreInherited() {
    MarrowHeap x = with(2, 0);
    x.commit(0);
    x.collect(2);
    Check.same("a kind below one with an end", x.ends(), 1);
    x.collect(1);
    Check.no("one above has none", x.exists(1));
  }

  private static void endsBlackenWhatIsReached() {
    MarrowHeap x = with(1, 1, 0, 1);
    x.link(0, 1, 0, 0);
    x.link(0, 0, 0, 2);
    x.link(0, 1, 1, 3);
    x.commit(0);
    x.collect(1);
    step(x, 4, "wwww w");
    step(x, 4, "bwbw e");
    step(x, 4, "bbbw e");
    step(x, 4, "bbbb e");
    Check.same("ends", x.ends(), 3);
    Check.same("unreached", x.unreached(), 0);
    x.begin(0);
    Check.same("the first", x.callEnd(0), 0);
    Check.same("the second", x.callEnd(0), 1);
    Check.same("lost ahead of the end", x.follow(0, 1, 1), -1);
    Check.same("the third", x.callEnd(0), 3);
  }

  private static void callEndTakesTheFirst() {
    MarrowHeap x = with(1, 1, 1);
    x.setRoot(0, 0, 0);
    x.commit(0);
    x.collect(4);
    Check.same("two wait", x.ends(), 2);
    x.begin(0);
    x.lock(0, 0);
    x.setRoot(0, 0, -1);
    x.commit(0);
    x.collect(6);
    Check.same("three wait", x.ends(), 3);
    x.begin(0);
    Check.same("the one that waits longest", x.callEnd(0), 1);
    Check.yes("ended", x.isEnded(1));
    Check.no("the next is not", x.isEnded(2));
    Check.same("held", x.heldBy(0), 1);
    Check.same("two wait now", x.ends(), 2);
    Check.same("the next", x.callEnd(0), 2);
    Check.same("the last", x.callEnd(0), 0);
    Check.fails("none", ELEMENT, () -> x.callEnd(0));
    x.commit(0);
    Check.same("not in hand any more", x.unreached(), 3);
    x.collect(20);
    Check.same("freed, and not called twice", x.freed(), 3);
    Check.same("ends", x.ends(), 0);
    Check.fails("isEnded of what is freed", INDEX, () -> x.isEnded(0));
    Check.fails("isEnded(-1)", INDEX, () -> x.isEnded(-1));
    Check.fails("isEnded(3)", INDEX, () -> x.isEnded(3));
  }

  private static void callEndRefuses() {
    MarrowHeap x = with(1);
    Check.fails("callEnd(3)", ARGUMENT, () -> x.callEnd(3));
    Check.fails("callEnd(-1)", ARGUMENT, () -> x.callEnd(-1));
    Check.fails("not open", STATE, () -> x.callEnd(1));
    Check.fails("none", ELEMENT, () -> x.callEnd(0));
    x.commit(0);
    x.collect(2);
    Check.fails("not open, though one waits", STATE, () -> x.callEnd(0));
    x.begin(0);
    x.begin(1);
    Check.same("in hand as it waits", x.lock(1, 0), 1);
    Check.fails("another holds it", OPERATION, () -> x.callEnd(0));
    Check.same("it waits still", x.ends(), 1);
    Check.no("it is not ended", x.isEnded(0));
    Check.same("the holder may", x.callEnd(1), 0);
    Check.same("it is held once", x.heldBy(1), 1);
  }

  private static void endsAreNotUndone() {
    MarrowHeap x = with(1);
    x.commit(0);
    x.collect(2);
    x.begin(0);
    x.callEnd(0);
    x.link(0, 0, 0, 0);
    x.abort(0);
    Check.yes("still ended", x.isEnded(0));
    Check.same("it does not wait again", x.ends(), 0);
    x.collect(4);
    Check.no("it is freed", x.exists(0));
    MarrowHeap y = with(1);
    y.commit(0);
    y.collect(2);
    y.begin(0);
    y.callEnd(0);
    y.setRoot(0, 0, 0);
    y.commit(0);
    y.collect(20);
    Check.yes("kept by a root", y.exists(0));
    Check.yes("and ended", y.isEnded(0));
  }

  private static void sweepFreesAndIsHindered() {
    MarrowHeap x = with(0, 0, 0, 0, 0, 0, 0);
    x.setRoot(0, 0, 6);
    x.setRoot(0, 1, 1);
    x.commit(0);
    Check.same("page of 5", x.pageOf(5), 1);
    x.begin(0);
    x.lock(0, 6);
    x.link(0, 6, 0, 6);
    x.collect(3);
    Check.sameText("marked", Look.colours(x, 7), "wbwwwwb m");
    Check.same("used", x.usedOf(0), 15);
    step(x, 7, "-bwwwwb s");
    Check.same("used behind it", x.usedOf(0), 12);
    Check.same("freed", x.freed(), 1);
    Check.same("three more, then hindered", x.collect(9), 3);
    Check.sameText("where it stands", Look.colours(x, 7), "-b---wb s");
    Check.same("hindered", x.collect(1), 0);
    x.commit(0);
    step(x, 7, "-b----b s");
    Check.same("freed", x.freed(), 5);
    Check.same("pages stay", x.pages(), 2);
    Check.fails("pageOf what is freed", INDEX, () -> x.pageOf(0));
    Check.fails("colourOf what is freed", INDEX, () -> x.colourOf(0));
  }

  /** 0 and 1 refer to 2 and 3 in page 0 (full), strongly and weakly; a new field makes 2 and 3 move to page 1. */
  private static MarrowHeap moved() {
    MarrowHeap x = with(0, 0, 0, 0, 0);
    x.link(0, 0, 0, 2);
    x.link(0, 0, 1, 3);
    x.link(0, 1, 1, 3);
    x.link(0, 2, 0, 3);
    x.setRoot(0, 0, 0);
    x.setRoot(0, 1, 1);
    x.setRoot(0, 2, 4);
    x.commit(0);
    x.addField(0, 'n');
    x.begin(0);
    x.lock(0, 2);
    x.number(0, 2, 2);
    Check.same("the first had room", x.pageOf(2), 0);
    x.number(0, 3, 2);
    Check.same("the second moved", x.pageOf(3), 1);
    Check.same("a forward stays", x.forwardsIn(0), 1);
    x.commit(0);
    return x;
  }

  private static void fixGoesByObjectsAndThenForwards() {
    MarrowHeap x = moved();
    x.collect(6);
    Check.same("marked", x.phase(), 'm');
    for (int steps = 0; steps < 3; steps++) {
      x.collect(1);
      Check.same("phase", x.phase(), 'f');
      Check.same("forwards stay", x.forwardsIn(0), 1);
    }
    Check.same("used", x.usedOf(0), 3 + 3 + 4 + 1 + 3);
    x.collect(1);
    Check.same("phase", x.phase(), 'f');
    Check.same("forwards are gone", x.forwardsIn(0), 0);
    Check.same("and their units", x.usedOf(0), 3 + 3 + 4 + 3);
    Check.same("the cycle has not ended", x.cycles(), 0);
    x.collect(1);
    Check.same("it has ended", x.cycles(), 1);
    x.begin(0);
    x.lock(0, 1);
    x.lock(0, 2);
    x.follow(0, 2, 0);
    Check.same("no forward", x.forwarded(), 0);
  }

  private static void fixIsHindered() {
    MarrowHeap x = moved();
    x.begin(0);
    x.lock(0, 3);
    x.setNumber(0, 3, 2, 5);
    x.begin(1);
    x.lock(1, 4);
    x.link(1, 4, 0, -1);
    Check.same("marked, then hindered in f", x.collect(20), 6);
    Check.same("phase", x.phase(), 'f');
    x.abort(1);
    Check.same("the rest of it goes on", x.collect(4), 4);
    Check.same("phase", x.phase(), 'f');
    Check.same("forwards are gone, page 1 has none", x.forwardsIn(0), 0);
    MarrowHeap y = moved();
    y.collect(9);
    y.begin(1);
    y.lock(1, 4);
    y.link(1, 4, 0, -1);
    Check.same("all know the right page, but the page with the forward is changed", y.collect(5), 0);
    Check.same("phase", y.phase(), 'f');
    Check.same("the forward stays", y.forwardsIn(0), 1);
    y.commit(1);
    Check.same("it goes", y.collect(1), 1);
    Check.same("no forward", y.forwardsIn(0), 0);
  }

  private static void crashLeavesTheCollector() {
    MarrowHeap x = with(0, 0, 1);
    x.link(0, 0, 0, 1);
    x.setRoot(0, 0, 0);
    x.commit(0);
    x.collect(2);
    Check.sameText("in m", Look.colours(x, 3), "bgw m");
    x.crash(-1, 0);
    Check.sameText("in m still", Look.colours(x, 3), "bgw m");
    step(x, 3, "bbw m");
    step(x, 3, "bbb e");
    x.crash(-1, 0);
    Check.same("it waits still", x.ends(), 1);
  }

  private static void existsTells() {
    MarrowHeap x = with(0, 0);
    Check.yes("made", x.exists(1));
    Check.no("not made", x.exists(2));
    Check.no("-1", x.exists(-1));
    Check.no("the least", x.exists(Integer.MIN_VALUE));
    Check.no("the greatest", x.exists(Integer.MAX_VALUE));
    x.commit(0);
    x.begin(0);
    x.make(0, 0);
    x.abort(0);
    Check.no("undone", x.exists(2));
    Check.yes("not undone", x.exists(1));
    x.collect(4);
    Check.no("freed", x.exists(1));
  }

  private static void coloursAreNotUndone() {
    MarrowHeap x = with(0, 0);
    x.setRoot(0, 0, 0);
    x.link(0, 0, 0, 1);
    x.commit(0);
    x.begin(0);
    x.collect(1);
    x.lock(0, 0);
    x.link(0, 0, 0, -1);
    x.link(0, 0, 0, 1);
    Check.sameText("grey by the link", Look.colours(x, 2), "gg m");
    x.abort(0);
    Check.sameText("grey behind the abort", Look.colours(x, 2), "gg m");
  }
}
