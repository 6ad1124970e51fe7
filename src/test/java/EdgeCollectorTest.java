/** The edges of the promises 20 to 28, and of what the terms say of the collector. */
public final class EdgeCollectorTest {
  private static final String NO_OBJECT = "Throws `IndexOutOfBoundsException` if there is no such object";

  public static void main(String[] args) {
    collectTakesOneToNinetyNine();
    collectRefusesOtherNumbers();
    collectStopsWhenHindered();
    phaseIsThatOfTheLastStep();
    colourOfRefusesObjectsThatAreNotThere();
    cyclesGoFromNone();
    freedGoesFromNone();
    endsGoFromNone();
    callEndRefusesTransactionsThatAreNotThere();
    callEndRefusesWhatIsNotOpen();
    callEndRefusesWhenNoneWaits();
    callEndRefusesWhatAnotherHolds();
    isEndedRefusesObjectsThatAreNotThere();
    existsTakesAnyNumber();
    newObjectsAreWhiteInTheFirstPhaseAlone();
    nextPhaseBeginsWhenThereIsNoStep();
    lastPhaseIsFollowedByTheFirst();
    startGreysWhatIsHeld();
    markGreysWhatWouldBeUndone();
    markComesBackWhenNoneIsGrey();
    weakLosesAllThatAreWhite();
    weakLosesOneOfAnyField();
    weakLosesNoOtherReference();
    endWaitsOnceOnly();
    endByAKindAbove();
    sweepFreesTheLowest();
    fixSetsAllRightAndThenDropsForwards();
    fixSetsNothingElse();
    changedPagesHinder();
    settingGreysInOnePhase();
    Check.end("EdgeCollectorTest");
  }

  /** Kind 0: fields 0 'r', 1 'w'; kind 1 below it has an end. Transaction 0 has made these and is open. */
  private static MarrowHeap with(int... kinds) {
    return Scene.ending("rw", kinds);
  }

  // ---- promises 20 to 22

  private static void collectTakesOneToNinetyNine() {
    Edge.says(20, "`steps`: the number of steps, 1 to 99");
    Edge.answers(Scene.EMPTY, "1", 1, x -> x.collect(1));
    Edge.answers(Scene.EMPTY, "2", 2, x -> x.collect(2));
    Edge.answers(Scene.EMPTY, "98", 98, x -> x.collect(98));
    MarrowHeap x = Edge.answers(Scene.EMPTY, "99", 99, y -> y.collect(99));
    Edge.same("cycles of one step each", x.cycles(), 98);
  }

  private static void collectRefusesOtherNumbers() {
    Edge.says(20, "Throws `IllegalArgumentException` if the number is out of range");
    for (int steps : new int[] {0, -1, 100, 101, Edge.LEAST, Edge.GREATEST}) {
      Edge.refuses(Scene.EMPTY, steps + " steps, empty", Edge.ARGUMENT, x -> x.collect(steps));
      Edge.refuses(Scene.SMALL, steps + " steps", Edge.ARGUMENT, x -> x.collect(steps));
      Edge.refuses(Scene.FULL, steps + " steps, full", Edge.ARGUMENT, x -> x.collect(steps));
    }
  }

  private static void collectStopsWhenHindered() {
    Edge.says(20, "Lets the collector make steps, as long as it is not hindered.");
    Scene scene = Scene.of(() -> {
      MarrowHeap x = with(0, 0, 0);
      x.setRoot(0, 0, 0);
      x.commit(0);
      x.begin(0);
      x.lock(0, 0);
      x.link(0, 0, 0, 0);
      return x;
    });
    for (int steps = 1; steps <= 4; steps++) {
      int it = steps;
      MarrowHeap x = Edge.answers(scene, steps + " steps", Math.min(steps, 2), y -> y.collect(it));
      Edge.same("none more", x.collect(99), Math.max(0, 2 - steps));
      Edge.same("none at all", x.collect(99), 0);
      Edge.same("nothing is freed", x.freed(), 0);
      x.commit(0);
      Edge.same("not hindered any more", x.collect(2), 2);
      Edge.same("freed", x.freed(), 2);
    }
  }

  private static void phaseIsThatOfTheLastStep() {
    Edge.says(21, "'i' at first; behind a step of this, 'm'; otherwise that of the step that was made last, or that "
        + "was hindered behind it.");
    MarrowHeap x = with(0, 0);
    x.setRoot(0, 0, 0);
    x.commit(0);
    Edge.same("at first", x.phase(), 'i');
    x.collect(1);
    Edge.same("behind a step of i", x.phase(), 'm');
    x.collect(1);
    Edge.same("a step of m", x.phase(), 'm');
    x.begin(0);
    x.lock(0, 0);
    x.link(0, 0, 0, -1);
    Edge.same("hindered", x.collect(1), 0);
    Edge.same("the phase of the step that is not made", x.phase(), 's');
    x.abort(0);
    x.collect(1);
    Edge.same("made", x.phase(), 's');
    x.collect(1);
    Edge.same("behind the next i", x.phase(), 'm');
    Edge.answers(Scene.FULL, "full, at first", 'i', y -> y.phase());
  }

  private static void colourOfRefusesObjectsThatAreNotThere() {
    Edge.says(22, NO_OBJECT);
    refusesObjects((x, object) -> x.colourOf(object));
    Edge.answers(Scene.SMALL, "the last", 'b', x -> x.colourOf(6));
    Edge.answers(Scene.FULL, "the last of a full database", 'w', x -> x.colourOf(99));
  }

  private static void refusesObjects(java.util.function.ObjIntConsumer<MarrowHeap> it) {
    Edge.refuses(Scene.EMPTY, "object 0 of an empty database", Edge.INDEX, x -> it.accept(x, 0));
    for (int object : new int[] {5, 7, 8, 99, 100, -1, -2, Edge.LEAST, Edge.GREATEST}) {
      Edge.refuses(Scene.SMALL, "object " + object, Edge.INDEX, x -> it.accept(x, object));
    }
    for (int object : new int[] {100, -1, Edge.LEAST, Edge.GREATEST}) {
      Edge.refuses(Scene.FULL, "object " + object + " of a full database", Edge.INDEX, x -> it.accept(x, object));
    }
  }

  // ---- promises 23 to 28

  private static void cyclesGoFromNone() {
    Edge.says(23, "Returns how many cycles the collector has ended.");
    Edge.answers(Scene.EMPTY, "empty", 0, x -> x.cycles());
    Edge.answers(Scene.SMALL, "the first has not ended", 0, x -> x.cycles());
    Edge.answers(Scene.FULL, "full", 0, x -> x.cycles());
    MarrowHeap x = new MarrowHeap();
    for (int steps = 0; steps < 5; steps++) {
      x.collect(1);
      Edge.same("the step that begins the next one ends it", x.cycles(), steps);
    }
  }

  private static void freedGoesFromNone() {
    Edge.says(24, "Returns how many objects were freed.");
    Edge.answers(Scene.EMPTY, "empty", 0, x -> x.freed());
    Edge.answers(Scene.SMALL, "one", 1, x -> x.freed());
    Edge.answers(Scene.FULL, "full", 0, x -> x.freed());
    MarrowHeap x = with(0, 0, 0);
    x.abort(0);
    x.collect(99);
    Edge.same("what is undone is not freed", x.freed(), 0);
    x.begin(0);
    x.make(0, 0);
    x.make(0, 0);
    x.commit(0);
    x.collect(99);
    Edge.same("two", x.freed(), 2);
    x.crash(-1, 0);
    Edge.same("a crash undoes none of it", x.freed(), 2);
  }

  private static void endsGoFromNone() {
    Edge.says(25, "Returns how many objects wait for their end.");
    Edge.answers(Scene.EMPTY, "empty", 0, x -> x.ends());
    Edge.answers(Scene.SMALL, "one", 1, x -> x.ends());
    Edge.answers(Scene.FULL, "full", 0, x -> x.ends());
    MarrowHeap x = new MarrowHeap();
    x.addKind(-1, true);
    x.begin(0);
    for (int i = 0; i < 64; i++) {
      x.make(0, 0);
    }
    x.commit(0);
    x.collect(1);
    for (int ends = 1; ends <= 64; ends++) {
      Edge.same("a step", x.collect(1), 1);
      Edge.same("one more", x.ends(), ends);
    }
    x.begin(0);
    for (int ends = 63; ends >= 0; ends--) {
      Edge.same("in their order", x.callEnd(0), 63 - ends);
      Edge.same("one less", x.ends(), ends);
    }
    Edge.refusesHere(x, "none", Edge.ELEMENT, () -> x.callEnd(0));
  }

  private static void callEndRefusesTransactionsThatAreNotThere() {
    Edge.says(26, "Throws `IllegalArgumentException` if there is no such transaction");
    for (int transaction : new int[] {-1, 3, -2, Edge.LEAST, Edge.GREATEST}) {
      Edge.refuses(Scene.EMPTY, "empty: " + transaction, Edge.ARGUMENT, x -> x.callEnd(transaction));
      Edge.refuses(Scene.SMALL, "one waits: " + transaction, Edge.ARGUMENT, x -> x.callEnd(transaction));
      Edge.refuses(Scene.FULL, "full: " + transaction, Edge.ARGUMENT, x -> x.callEnd(transaction));
    }
    Edge.answers(Scene.SMALL, "0", 3, x -> x.callEnd(0));
    Edge.answers(Scene.SMALL, "1", 3, x -> x.callEnd(1));
  }

  private static void callEndRefusesWhatIsNotOpen() {
    Edge.says(26, "Throws `IllegalStateException` if the transaction is not open");
    Edge.refuses(Scene.SMALL, "one waits", Edge.STATE, x -> x.callEnd(2));
    Edge.refuses(Scene.EMPTY, "none waits", Edge.STATE, x -> x.callEnd(0));
    Edge.refuses(Scene.of(() -> {
      MarrowHeap x = Scene.SMALL.fresh();
      x.commit(0);
      return x;
    }), "it has ended", Edge.STATE, x -> x.callEnd(0));
  }

  private static void callEndRefusesWhenNoneWaits() {
    Edge.says(26, "Throws `NoSuchElementException` if there is none");
    Edge.refuses(Scene.FULL, "full", Edge.ELEMENT, x -> x.callEnd(0));
    Scene called = Scene.of(() -> {
      MarrowHeap x = Scene.SMALL.fresh();
      x.callEnd(0);
      return x;
    });
    Edge.refuses(called, "it is called", Edge.ELEMENT, x -> x.callEnd(0));
    Edge.refuses(called, "it is called, by another", Edge.ELEMENT, x -> x.callEnd(1));
    MarrowHeap x = with(1, 1);
    x.commit(0);
    x.begin(0);
    Edge.refusesHere(x, "none yet", Edge.ELEMENT, () -> x.callEnd(0));
    x.collect(2);
    Edge.same("one", x.callEnd(0), 0);
    Edge.refusesHere(x, "no second yet", Edge.ELEMENT, () -> x.callEnd(0));
    x.collect(1);
    Edge.same("two", x.callEnd(0), 1);
    Edge.refusesHere(x, "no third", Edge.ELEMENT, () -> x.callEnd(0));
  }

  private static void callEndRefusesWhatAnotherHolds() {
    Edge.says(26, "Throws `UnsupportedOperationException` if another transaction holds the object");
    Scene scene = Scene.of(() -> {
      MarrowHeap x = Scene.SMALL.fresh();
      x.lock(0, 3);
      return x;
    });
    Edge.refuses(scene, "held by 0", Edge.OPERATION, x -> x.callEnd(1));
    Edge.answers(scene, "by the one that holds it", 3, x -> x.callEnd(0));
    Edge.answers(Scene.of(() -> {
      MarrowHeap x = scene.fresh();
      x.abort(0);
      return x;
    }), "it has ended", 3, x -> x.callEnd(1));
    Scene two = Scene.of(() -> {
      MarrowHeap x = with(1, 1);
      x.commit(0);
      x.collect(3);
      x.begin(0);
      x.begin(1);
      x.lock(0, 0);
      return x;
    });
    Edge.refuses(two, "the first is held, though not the second", Edge.OPERATION, x -> x.callEnd(1));
    Edge.answers(Scene.of(() -> {
      MarrowHeap x = two.fresh();
      x.callEnd(0);
      return x;
    }), "the second is the first then", 1, x -> x.callEnd(1));
  }

  private static void isEndedRefusesObjectsThatAreNotThere() {
    Edge.says(27, NO_OBJECT);
    refusesObjects((x, object) -> x.isEnded(object));
    Edge.answers(Scene.SMALL, "waits", 0, x -> x.isEnded(3) ? 1 : 0);
    Edge.answers(Scene.SMALL, "the last", 0, x -> x.isEnded(6) ? 1 : 0);
    Edge.answers(Scene.FULL, "the last of a full database", 0, x -> x.isEnded(99) ? 1 : 0);
  }

  private static void existsTakesAnyNumber() {
    Edge.says(28, "whether it was made, was not undone, and was not freed.");
    for (int object : new int[] {-1, 0, 99, 100, Edge.LEAST, Edge.GREATEST}) {
      Edge.answers(Scene.EMPTY, "empty: " + object, 0, x -> x.exists(object) ? 1 : 0);
      boolean there = object == 0 || object == 99;
      Edge.answers(Scene.FULL, "full: " + object, there ? 1 : 0, x -> x.exists(object) ? 1 : 0);
    }
    for (int object = -1; object <= 9; object++) {
      int it = object;
      boolean there = object >= 0 && object <= 6 && object != 5;
      Edge.answers(Scene.SMALL, "small: " + it, there ? 1 : 0, x -> x.exists(it) ? 1 : 0);
    }
  }

  // ---- terms

  private static void newObjectsAreWhiteInTheFirstPhaseAlone() {
    Edge.says(Edge.TERMS, "Each object has a colour, black for one that is made in a phase other than 'i', and white "
        + "for others.");
    String seen = "";
    MarrowHeap x = phases();
    for (int steps = 0; steps < 12; steps++) {
      int object = x.make(1, 0);
      Edge.same("made in " + x.phase(), x.colourOf(object), x.phase() == 'i' ? 'w' : 'b');
      if (seen.indexOf(x.phase()) < 0) {
        seen += x.phase();
      }
      x.abort(1);
      x.begin(1);
      x.collect(1);
    }
    Edge.sameText("all phases came", seen, "imwesf");
  }

  /** A database whose next cycle has steps in each phase; transaction 1 is open. */
  private static MarrowHeap phases() {
    MarrowHeap x = with(0, 0, 1, 0, 0);
    x.link(0, 0, 0, 1);
    x.link(0, 0, 1, 2);
    x.setRoot(0, 0, 0);
    x.setRoot(0, 1, 4);
    x.commit(0);
    x.addField(0, 'n');
    x.addField(0, 'n');
    x.begin(0);
    x.lock(0, 0);
    x.number(0, 1, 2);
    Edge.same("moved", x.pageOf(1), 1);
    x.commit(0);
    x.begin(1);
    return x;
  }

  private static void nextPhaseBeginsWhenThereIsNoStep() {
    Edge.says(Edge.TERMS, "If the phase has no step to make when one is to be made, the next phase begins, behind the "
        + "last one 'i', and the step is one of that, or of the next one that has one.");
    MarrowHeap x = phases();
    StringBuilder text = new StringBuilder();
    for (int steps = 0; steps < 14; steps++) {
      Edge.same("a step", x.collect(1), 1);
      text.append(x.phase());
    }
    Edge.sameText("phases of the steps", text.toString(), "mmmmwesffmmmmm");
    Edge.sameText("none behind i: the next i", phasesOf(with(), 3), "mmm");
    MarrowHeap weak = with(0, 0);
    weak.link(0, 0, 1, 1);
    weak.setRoot(0, 0, 0);
    Edge.sameText("m, then w", phasesOf(weak, 4), "mmws");
    Edge.sameText("from m to e", phasesOf(with(1), 3), "mem");
    Edge.sameText("from m to s", phasesOf(with(0), 3), "msm");
    MarrowHeap moved = Scene.chain(1, 0);
    moved.addField(0, 'n');
    moved.number(0, 3, 3);
    Edge.same("a forward, but no reference by way of it", moved.forwardsIn(0), 1);
    Edge.sameText("from m to f", phasesOf(moved, 7), "mmmmmfm");
  }

  /** The phases behind so many steps, the first of which is one of 'i'. */
  private static String phasesOf(MarrowHeap x, int steps) {
    x.commit(0);
    StringBuilder text = new StringBuilder();
    for (int i = 0; i < steps; i++) {
      Edge.same("a step", x.collect(1), 1);
      text.append(x.phase());
    }
    return text.toString();
  }

  private static void lastPhaseIsFollowedByTheFirst() {
    Edge.says(Edge.TERMS, "A cycle has ended when this phase ends.");
    MarrowHeap x = phases();
    for (int steps = 0; steps < 9; steps++) {
      x.collect(1);
      Edge.same("not ended", x.cycles(), 0);
    }
    Edge.same("in the last phase", x.phase(), 'f');
    x.collect(1);
    Edge.same("ended", x.cycles(), 1);
    Edge.same("the step was one of i", x.phase(), 'm');
    Edge.sameText("all are white but those of roots and what waits", Look.colours(x, 5), "gwg-g m");
  }

  private static void startGreysWhatIsHeld() {
    Edge.says(Edge.TERMS, "all objects become white, and then those are grey that are the objects of roots, now or as "
        + "they would be if all open transactions were undone, or that an open transaction holds, or that wait for "
        + "their end; the next phase begins.");
    MarrowHeap x = with(0, 0, 0, 0, 0, 1);
    x.setRoot(0, 0, 0);
    x.setRoot(0, 1, 1);
    x.setRoot(0, 2, 2);
    x.link(0, 2, 0, 3);
    x.commit(0);
    while (x.ends() == 0) {
      x.collect(1);
    }
    x.begin(0);
    x.lock(0, 0);
    x.setRoot(0, 1, -1);
    x.setRoot(0, 3, 0);
    x.commit(0);
    x.begin(0);
    x.lock(0, 0);
    x.begin(1);
    x.lock(1, 2);
    x.setRoot(1, 2, -1);
    x.setRoot(1, 3, 3);
    x.begin(2);
    x.make(2, 0);
    while (x.cycles() == 0) {
      x.collect(1);
    }
    Edge.sameText("0 root, 1 not, 2 undone root, 3 root, 4 freed, 5 waits, 6 held", Look.colours(x, 7), "gwgg-gg m");
  }

  private static void markGreysWhatWouldBeUndone() {
    Edge.says(Edge.TERMS, "Here, an object refers also to what it would refer to if all open transactions were undone, "
        + "if it was there then, and so does a root.");
    MarrowHeap y = Scene.chain(1);
    y.begin(0);
    y.lock(0, 3);
    y.link(0, 3, 1, -1);
    y.setRoot(0, 0, -1);
    y.collect(1);
    Edge.sameText("what is held, and the root", Look.colours(y, 4), "gggg m");
    y.abort(0);
    MarrowHeap z = with(1, 0);
    z.link(0, 0, 0, 1);
    z.commit(0);
    z.collect(2);
    z.begin(0);
    z.callEnd(0);
    z.link(0, 0, 0, -1);
    z.collect(1);
    Edge.sameText("1 is neither held nor reached now", Look.colours(z, 2), "gw m");
    z.collect(1);
    Edge.sameText("but would be if it were undone", Look.colours(z, 2), "bg m");
    MarrowHeap kept = with(1, 0);
    kept.link(0, 0, 0, 1);
    kept.commit(0);
    kept.collect(2);
    kept.begin(0);
    kept.callEnd(0);
    kept.link(0, 0, 0, -1);
    kept.commit(0);
    kept.begin(0);
    kept.collect(1);
    Edge.sameText("it is committed", Look.colours(kept, 2), "ww m");
  }

  private static void markComesBackWhenNoneIsGrey() {
    Edge.says(Edge.TERMS, "if there is no grey object, all white ones become grey to which a root refers, that an open "
        + "transaction holds, or that wait for their end; if there are none, the phase has no step to make.");
    MarrowHeap x = with(1, 0, 0);
    x.link(0, 0, 0, 1);
    x.commit(0);
    x.collect(2);
    Edge.step(x, 3, "bb- s");
    Edge.step(x, 3, "gw- m");
    x.begin(1);
    x.lock(1, 1);
    x.begin(0);
    x.callEnd(0);
    x.link(0, 0, 0, -1);
    x.commit(0);
    Edge.step(x, 3, "bw- m");
    Edge.step(x, 3, "bg- m");
    Edge.step(x, 3, "bb- m");
    Edge.step(x, 3, "wg- m");
    Edge.same("there was none more: the next cycle", x.cycles(), 2);
  }

  private static void weakLosesAllThatAreWhite() {
    Edge.says(Edge.TERMS, "the lowest-numbered object with a weak reference to a white object loses all of its weak "
        + "references to white ones.");
    MarrowHeap x = new MarrowHeap();
    x.addKind(-1, false);
    for (int i = 0; i < 6; i++) {
      x.addField(0, 'w');
    }
    x.begin(0);
    for (int i = 0; i < 4; i++) {
      x.make(0, 0);
    }
    for (int field = 0; field < 6; field++) {
      x.link(0, 1, field, field % 2 == 0 ? 2 : 0);
      x.link(0, 0, field, field == 5 ? 3 : 1);
    }
    x.setRoot(0, 0, 0);
    x.setRoot(0, 1, 1);
    x.commit(0);
    x.collect(3);
    Edge.step(x, 4, "bbww w");
    x.begin(0);
    x.lock(0, 0);
    x.lock(0, 1);
    for (int field = 0; field < 6; field++) {
      Edge.same("0 has lost the white one alone", x.follow(0, 0, field), field == 5 ? -1 : 1);
      Edge.same("1 comes next", x.follow(0, 1, field), field % 2 == 0 ? 2 : 0);
    }
    Edge.step(x, 4, "bbww w");
    for (int field = 0; field < 6; field++) {
      Edge.same("1 has lost all three", x.follow(0, 1, field), field % 2 == 0 ? -1 : 0);
    }
    Edge.same("no object has more", x.collect(1), 1);
    Edge.same("freed", x.phase(), 's');
  }

  private static void weakLosesOneOfAnyField() {
    Edge.says(Edge.TERMS, "the lowest-numbered object with a weak reference to a white object loses all of its weak "
        + "references to white ones.");
    for (int field = 0; field < 6; field++) {
      MarrowHeap x = new MarrowHeap();
      x.addKind(-1, false);
      for (int i = 0; i < 6; i++) {
        x.addField(0, i == field ? 'w' : 'n');
      }
      x.begin(0);
      x.make(0, 0);
      x.make(0, 0);
      x.link(0, 0, field, 1);
      for (int i = 0; i < 6; i++) {
        if (i != field) {
          x.setNumber(0, 0, i, 1);
        }
      }
      x.setRoot(0, 0, 0);
      x.commit(0);
      x.collect(2);
      Edge.step(x, 2, "bw w");
      x.begin(0);
      x.lock(0, 0);
      Edge.same("lost by field " + field, x.follow(0, 0, field), -1);
      for (int i = 0; i < 6; i++) {
        if (i != field) {
          Edge.same("a number stays", x.number(0, 0, i), 1);
        }
      }
    }
  }

  /** Object 0 is white itself; what it refers to by a reference that is not weak must come back with it. */
  private static void weakLosesNoOtherReference() {
    Edge.says(Edge.TERMS, "loses all of its weak references to white ones.");
    MarrowHeap x = with(1, 0, 0);
    x.link(0, 0, 0, 1);
    x.link(0, 0, 1, 2);
    x.commit(0);
    x.collect(1);
    Edge.step(x, 3, "www w");
    Edge.step(x, 3, "bbw e");
    Edge.step(x, 3, "bb- s");
    x.begin(0);
    Edge.same("the first that waits", x.callEnd(0), 0);
    Edge.same("the reference stays", x.follow(0, 0, 0), 1);
    Edge.same("the weak one is lost", x.follow(0, 0, 1), -1);
  }

  private static void endByAKindAbove() {
    Edge.says(Edge.TERMS, "the lowest-numbered white object that has an end, by its kind or one above");
    for (int top = 0; top < 8; top++) {
      MarrowHeap x = new MarrowHeap();
      for (int kind = 0; kind < 8; kind++) {
        x.addKind(kind - 1, kind == top);
      }
      x.begin(0);
      for (int kind = 0; kind < 8; kind++) {
        x.make(0, kind);
      }
      x.commit(0);
      x.collect(1);
      for (int kind = top; kind < 8; kind++) {
        Edge.same("a step", x.collect(1), 1);
        Edge.same("of e", x.phase(), 'e');
        Edge.same("wait, by kind " + top, x.ends(), kind - top + 1);
      }
      x.collect(1);
      Edge.same("no more wait", x.ends(), 8 - top);
      Edge.same("the one without an end is freed, or there is none", x.exists(0) ? 1 : 0, top == 0 ? 1 : 0);
    }
  }

  private static void endWaitsOnceOnly() {
    Edge.says(Edge.TERMS, "the lowest-numbered white object that has an end, by its kind or one above, and was not "
        + "called and does not wait, waits for its end from now on, and becomes black, as do all objects that are "
        + "reached from it.");
    MarrowHeap x = with(0, 1, 0, 1);
    int below = x.addKind(1, false);
    x.make(0, below);
    x.link(0, 1, 0, 0);
    x.link(0, 3, 1, 2);
    x.commit(0);
    x.collect(1);
    Edge.step(x, 5, "wwwww w");
    Edge.step(x, 5, "bbwww e");
    Edge.step(x, 5, "bbwbw e");
    Edge.step(x, 5, "bbwbb e");
    Edge.step(x, 5, "bb-bb s");
    Edge.same("three wait", x.ends(), 3);
    x.collect(30);
    Edge.same("not twice", x.ends(), 3);
    x.begin(0);
    Edge.same("the first", x.callEnd(0), 1);
    x.commit(0);
    x.collect(30);
    Edge.no("called, so it is freed", x.exists(1));
    Edge.same("two wait", x.ends(), 2);
  }

  private static void sweepFreesTheLowest() {
    Edge.says(Edge.TERMS, "the lowest-numbered white object is freed.");
    MarrowHeap x = with(0, 0, 0, 0, 0, 0);
    x.setRoot(0, 0, 2);
    x.commit(0);
    x.collect(2);
    int[] order = {0, 1, 3, 4, 5};
    for (int i = 0; i < order.length; i++) {
      Edge.yes("still there: " + order[i], x.exists(order[i]));
      Edge.same("a step", x.collect(1), 1);
      Edge.no("freed: " + order[i], x.exists(order[i]));
      Edge.same("freed", x.freed(), i + 1);
    }
    Edge.same("used of 0", x.usedOf(0), 3);
    Edge.same("an empty page stays", x.pages(), 2);
    Edge.same("used of 1", x.usedOf(1), 0);
    Edge.yes("a black one stays", x.exists(2));
  }

  private static void fixSetsAllRightAndThenDropsForwards() {
    Edge.says(Edge.TERMS, "the lowest-numbered object with a reference, weak or not, to an object that is there, which "
        + "knows another page than that of this object, gets all its references to know the right pages; if there is "
        + "no such object, but there are forwards, all forwards are gone.");
    MarrowHeap x = phases();
    x.collect(7);
    Edge.same("in s", x.phase(), 's');
    Edge.same("a forward", x.forwardsIn(0), 1);
    x.collect(1);
    Edge.same("in f", x.phase(), 'f');
    Edge.same("the forward stays", x.forwardsIn(0), 1);
    int used = x.usedOf(0);
    x.collect(1);
    Edge.same("it is gone", x.forwardsIn(0), 0);
    Edge.same("with its unit", x.usedOf(0), used - 1);
    x.begin(0);
    x.lock(0, 0);
    Edge.same("followed", x.follow(0, 0, 0), 1);
    Edge.same("by no forward", x.forwarded(), 0);
  }

  private static void fixSetsNothingElse() {
    Edge.says(Edge.TERMS, "gets all its references to know the right pages");
    MarrowHeap x = new MarrowHeap();
    x.addKind(-1, false);
    x.addKind(-1, false);
    for (char type : "nrwrw".toCharArray()) {
      x.addField(0, type);
    }
    x.begin(0);
    x.make(0, 0);
    for (int object = 1; object <= 10; object++) {
      x.make(0, 1);
    }
    x.setNumber(0, 0, 0, 7);
    x.link(0, 0, 1, 1);
    x.link(0, 0, 2, 2);
    x.link(0, 0, 4, 1);
    x.setRoot(0, 0, 0);
    x.setRoot(0, 1, 2);
    x.addField(1, 'n');
    x.setNumber(0, 1, 5, 8);
    x.setNumber(0, 2, 5, 9);
    Edge.same("two have moved", x.forwardsIn(0), 2);
    x.commit(0);
    while (x.phase() != 'f') {
      x.collect(1);
    }
    Edge.same("one step for the one object", x.forwardsIn(0), 2);
    Edge.same("a step", x.collect(1), 1);
    Edge.same("forwards", x.forwardsIn(0), 0);
    Edge.same("in f", x.phase(), 'f');
    x.begin(0);
    x.lock(0, 0);
    x.lock(0, 2);
    Edge.same("the number", x.number(0, 0, 0), 7);
    int[] due = {1, 2, -1, 1};
    for (int field = 1; field <= 4; field++) {
      Edge.same("reference " + field, x.follow(0, 0, field), due[field - 1]);
    }
    Edge.same("by no forward", x.forwarded(), 0);
    Edge.same("the numbers of the others", 10 * x.number(0, 1, 5) + x.number(0, 2, 5), 89);
    Edge.same("used of page 0", x.usedOf(0), 6);
    Edge.same("used of page 1", x.usedOf(1), 4);
  }

  private static void changedPagesHinder() {
    Edge.says(Edge.TERMS, "A step that would change an object, or a page with forwards, in a page that an open "
        + "transaction has changed, hinders the collector: it is not made.");
    MarrowHeap x = phases();
    x.begin(0);
    x.lock(0, 1);
    x.setNumber(0, 1, 2, 5);
    Edge.same("the steps of i, m, w, e and s change no page but 0", x.collect(7), 7);
    Edge.same("in s", x.phase(), 's');
    Edge.same("those of f too", x.collect(2), 2);
    Edge.same("in f", x.phase(), 'f');
    MarrowHeap y = phases();
    y.begin(0);
    y.lock(0, 0);
    y.link(0, 0, 0, 1);
    Edge.same("steps of i and m", y.collect(20), 4);
    Edge.same("then hindered", y.phase(), 'w');
    y.abort(0);
    Edge.same("not any more", y.collect(2), 2);
    y.begin(0);
    y.lock(0, 0);
    y.link(0, 0, 0, 1);
    Edge.same("hindered again", y.collect(20), 0);
    Edge.same("in s", y.phase(), 's');
    y.commit(0);
    Edge.same("freed, and all known", y.collect(1), 1);
    y.begin(0);
    y.lock(0, 0);
    y.link(0, 0, 1, 0);
    Edge.same("a page with forwards", y.collect(20), 0);
    Edge.same("in f", y.phase(), 'f');
  }

  private static void settingGreysInOnePhase() {
    Edge.says(Edge.TERMS, "When a reference that is not weak, or a root, is set to a white object in the phase 'm', "
        + "this object becomes grey.");
    MarrowHeap x = Scene.chain(1);
    x.begin(0);
    x.lock(0, 3);
    x.setRoot(0, 1, 0);
    x.link(0, 3, 1, 2);
    Edge.sameText("in i it does not", Look.colours(x, 4), "wwww i");
    x.commit(0);
    x.collect(1);
    x.begin(0);
    x.lock(0, 3);
    x.link(0, 3, 2, 1);
    Edge.sameText("nor if it is weak", Look.colours(x, 4), "gwwg m");
    x.link(0, 3, 1, 2);
    Edge.sameText("a reference", Look.colours(x, 4), "gwgg m");
    x.setRoot(0, 2, 1);
    Edge.sameText("a root", Look.colours(x, 4), "gggg m");
  }
}
