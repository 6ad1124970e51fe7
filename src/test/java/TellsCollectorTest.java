/** What the promises 20 to 28 tell, sentence by sentence, and what the terms tell of the collector beside its edges. */
public final class TellsCollectorTest {
  public static void main(String[] args) {
    collectAnswers();
    phaseAnswers();
    colourOfAnswers();
    cyclesAnswers();
    freedAnswers();
    endsAnswers();
    callEndCalls();
    callEndTakesTheOneThatWaitsLongest();
    isEndedTells();
    existsTells();
    markGoesByNumbers();
    markGoesOverAllThatAreNotWeak();
    crashLeavesTheCollector();
    Check.end("TellsCollectorTest");
  }

  /** Kind 0: fields 0 'r', 1 'w', 2 'r'; kind 1 below it has an end. Transaction 0 has made these and is open. */
  private static MarrowHeap with(int... kinds) {
    return Scene.ending("rwr", kinds);
  }

  /** The next cycle has a step in each phase: 0 -> 1, which has moved, and 0 -> 2 weakly; 2 has an end, 3 has none. */
  private static MarrowHeap phases() {
    MarrowHeap x = with(0, 0, 1, 0);
    x.link(0, 0, 0, 1);
    x.link(0, 0, 1, 2);
    x.setRoot(0, 0, 0);
    x.commit(0);
    x.addField(0, 'n');
    x.begin(0);
    x.lock(0, 0);
    x.number(0, 1, 3);
    Edge.same("moved", x.pageOf(1), 1);
    x.commit(0);
    return x;
  }

  // ---- promises 20 to 25

  private static void collectAnswers() {
    Edge.says(20, "Returns how many steps it made.");
    for (int steps = 1; steps <= 20; steps++) {
      MarrowHeap at = phases();
      MarrowHeap one = phases();
      Edge.same("all at once", at.collect(steps), steps);
      for (int i = 0; i < steps; i++) {
        Edge.same("one by one", one.collect(1), 1);
      }
      Edge.sameText("the same comes of both", Look.at(at), Look.at(one));
    }
  }

  private static void phaseAnswers() {
    Edge.says(21, "Returns the phase of the collector: 'i' at first; behind a step of this, 'm'; otherwise that of the "
        + "step that was made last, or that was hindered behind it.");
    MarrowHeap x = phases();
    Edge.says(21, "Returns 'i', 'm', 'w', 'e', 's' or 'f'.");
    StringBuilder text = new StringBuilder();
    for (int steps = 0; steps < 9; steps++) {
      text.append(x.phase());
      x.collect(1);
    }
    Edge.sameText("of a cycle", text.toString(), "immmwesff");
    for (int i = 0; i < 99; i++) {
      x.collect(1);
      Edge.yes("no other", "mwesf".indexOf(x.phase()) >= 0);
    }
  }

  private static void colourOfAnswers() {
    Edge.says(22, "Returns the colour of an object.");
    MarrowHeap x = with(0, 0, 0);
    x.setRoot(0, 0, 0);
    x.setRoot(0, 1, 1);
    x.commit(0);
    Edge.sameText("at first", Look.colours(x, 3), "www i");
    x.collect(1);
    Edge.sameText("of roots", Look.colours(x, 3), "ggw m");
    x.collect(1);
    Edge.says(22, "`object`: the object");
    Edge.same("of 0", x.colourOf(0), 'b');
    Edge.same("of 1", x.colourOf(1), 'g');
    Edge.same("of 2", x.colourOf(2), 'w');
    Edge.says(22, "Returns 'w' for white, 'g' for grey, 'b' for black.");
    x.begin(0);
    Edge.same("made in m", x.colourOf(x.make(0, 0)), 'b');
    Edge.same("reached from no root", x.colourOf(2), 'w');
    Edge.same("a root that is not yet marked", x.colourOf(1), 'g');
  }

  private static void cyclesAnswers() {
    Edge.says(23, "Returns the number of cycles.");
    MarrowHeap x = phases();
    x.collect(8);
    Edge.same("in the first", x.cycles(), 0);
    x.collect(1);
    Edge.same("in the second", x.cycles(), 1);
    x.collect(3);
    Edge.same("its last step", x.cycles(), 1);
    x.collect(1);
    Edge.same("in the third", x.cycles(), 2);
  }

  private static void freedAnswers() {
    Edge.says(24, "Returns the number of objects.");
    MarrowHeap x = with(0, 0, 0, 0);
    x.setRoot(0, 0, 2);
    x.commit(0);
    x.collect(2);
    int[] order = {0, 1, 3};
    for (int i = 0; i < 3; i++) {
      Edge.same("so far", x.freed(), i);
      x.collect(1);
      Edge.no("freed: " + order[i], x.exists(order[i]));
    }
    Edge.same("three", x.freed(), 3);
    x.collect(9);
    Edge.same("the one that is reached is not", x.freed(), 3);
  }

  private static void endsAnswers() {
    Edge.says(25, "Returns the number of objects.");
    MarrowHeap x = with(1, 0, 1, 1);
    x.setRoot(0, 0, 3);
    x.commit(0);
    x.collect(2);
    Edge.same("none yet", x.ends(), 0);
    x.collect(1);
    Edge.same("0", x.ends(), 1);
    x.collect(1);
    Edge.same("0 and 2", x.ends(), 2);
    x.collect(30);
    Edge.same("1 has no end, 3 is reached", x.ends(), 2);
    x.begin(0);
    x.callEnd(0);
    Edge.same("2", x.ends(), 1);
    x.abort(0);
    Edge.same("it does not wait again", x.ends(), 1);
  }

  // ---- promises 26 to 28

  private static void callEndCalls() {
    Edge.says(26, "Calls the end of the first object that waits for it; the transaction holds the object then.");
    MarrowHeap x = with(1, 1, 0);
    x.link(0, 0, 0, 2);
    x.commit(0);
    x.collect(3);
    x.begin(0);
    x.begin(1);
    Edge.same("waiting", x.ends(), 2);
    x.callEnd(0);
    Edge.yes("called", x.isEnded(0));
    Edge.no("not the second", x.isEnded(1));
    Edge.same("held by 0: it alone, not what is reached from it", x.heldBy(0), 1);
    Edge.same("it can be read then", x.follow(0, 0, 0), 2);
    Edge.says(26, "`transaction`: the transaction");
    x.callEnd(1);
    Edge.same("held by 1", x.heldBy(1), 1);
    Edge.same("by it", x.follow(1, 1, 0), -1);
    Edge.fails("not by 0", Edge.STATE, () -> x.follow(0, 1, 0));
    Edge.says(26, "Returns the object.");
    for (int object = 0; object < 4; object++) {
      int[] kinds = new int[4];
      kinds[object] = 1;
      MarrowHeap y = with(kinds);
      y.commit(0);
      y.collect(2);
      y.begin(2);
      Edge.same("the one that waits", y.callEnd(2), object);
    }
  }

  /** The first that waits is the one that began to wait first, also if one with a lower number does so later. */
  private static void callEndTakesTheOneThatWaitsLongest() {
    Edge.says(26, "Calls the end of the first object that waits for it; the transaction holds the object then.",
        "the first object that waits for it");
    MarrowHeap x = with(1, 1);
    x.setRoot(0, 0, 0);
    x.commit(0);
    x.collect(9);
    Edge.same("1 waits", x.ends(), 1);
    x.begin(0);
    x.setRoot(0, 0, -1);
    x.commit(0);
    x.collect(9);
    Edge.same("0 waits too", x.ends(), 2);
    x.begin(0);
    Edge.same("first", x.callEnd(0), 1);
    Edge.same("then", x.callEnd(0), 0);
  }

  private static void isEndedTells() {
    Edge.says(27, "Returns whether the end of an object was called.");
    MarrowHeap x = with(1, 1, 0);
    x.setRoot(0, 0, 2);
    x.commit(0);
    Edge.no("at first", x.isEnded(0));
    x.collect(9);
    Edge.same("both wait", x.ends(), 2);
    Edge.no("it waits", x.isEnded(0));
    x.begin(0);
    x.callEnd(0);
    Edge.yes("called", x.isEnded(0));
    Edge.says(27, "`object`: the object");
    Edge.no("the other waits", x.isEnded(1));
    Edge.no("one without an end", x.isEnded(2));
    Edge.says(27, "Returns whether it was.");
    x.abort(0);
    Edge.yes("that is not undone", x.isEnded(0));
    x.begin(0);
    x.callEnd(0);
    x.crash(0, 0);
    Edge.yes("nor by a crash", x.isEnded(1));
  }

  private static void existsTells() {
    Edge.says(28, "Returns whether there is an object.");
    MarrowHeap x = with(0, 0, 0);
    Edge.yes("made", x.exists(2));
    Edge.no("not made", x.exists(3));
    Edge.says(28, "`object`: the object");
    x.setRoot(0, 0, 1);
    x.commit(0);
    x.collect(9);
    Edge.no("0", x.exists(0));
    Edge.yes("1", x.exists(1));
    Edge.says(28, "Returns whether it was made, was not undone, and was not freed.");
    Edge.no("it was freed", x.exists(2));
    x.begin(0);
    Edge.same("made", x.make(0, 0), 3);
    Edge.yes("it is there", x.exists(3));
    x.abort(0);
    Edge.no("it was undone", x.exists(3));
    Edge.no("it was not made", x.exists(4));
  }

  // ---- terms

  private static void markGoesByNumbers() {
    Edge.says(Edge.TERMS, "the lowest-numbered grey object becomes black, and all white objects to which it refers by "
        + "references that are not weak become grey");
    MarrowHeap x = with(0, 0, 0, 0, 0);
    x.link(0, 3, 0, 0);
    x.link(0, 3, 2, 4);
    x.link(0, 1, 0, 2);
    x.link(0, 1, 2, 3);
    x.link(0, 4, 0, 1);
    x.setRoot(0, 0, 1);
    x.commit(0);
    Edge.step(x, 5, "wgwww m");
    Edge.step(x, 5, "wbggw m");
    Edge.step(x, 5, "wbbgw m");
    Edge.step(x, 5, "gbbbg m");
    Edge.step(x, 5, "bbbbg m");
    Edge.step(x, 5, "bbbbb m");
    Edge.step(x, 5, "wgwww m");
    Edge.same("the second cycle", x.cycles(), 1);
  }

  /** A reference in each of the six fields of a kind, weak in one of them. */
  private static void markGoesOverAllThatAreNotWeak() {
    Edge.says(Edge.TERMS, "the lowest-numbered grey object becomes black, and all white objects to which it refers by "
        + "references that are not weak become grey", "all white objects to which it refers by references that are not "
        + "weak become grey");
    for (int weak = 0; weak < 6; weak++) {
      MarrowHeap x = new MarrowHeap();
      x.addKind(-1, false);
      x.addKind(-1, false);
      for (int field = 0; field < 6; field++) {
        x.addField(0, field == weak ? 'w' : 'r');
      }
      x.begin(0);
      x.make(0, 0);
      StringBuilder due = new StringBuilder("b");
      for (int field = 0; field < 6; field++) {
        x.link(0, 0, field, x.make(0, 1));
        due.append(field == weak ? 'w' : 'g');
      }
      x.setRoot(0, 0, 0);
      x.commit(0);
      Edge.step(x, 7, "gwwwwww m");
      Edge.step(x, 7, due + " m");
    }
  }

  private static void crashLeavesTheCollector() {
    Edge.says(Edge.TERMS, "The collector goes on behind that where it was.");
    for (int steps = 0; steps <= 12; steps++) {
      MarrowHeap crashed = phases();
      MarrowHeap other = phases();
      crashed.collect(steps + 1);
      other.collect(steps + 1);
      crashed.crash(-1, 0);
      for (int more = 0; more < 12; more++) {
        Edge.sameText("behind " + steps + " steps", Look.colours(crashed, 4), Look.colours(other, 4));
        Edge.same("cycles", crashed.cycles(), other.cycles());
        Edge.same("freed", crashed.freed(), other.freed());
        Edge.same("ends", crashed.ends(), other.ends());
        Edge.same("a step", crashed.collect(1), other.collect(1));
      }
    }
  }
}
