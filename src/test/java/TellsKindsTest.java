import java.nio.file.Files;
import java.nio.file.Path;
import java.util.ArrayList;
import java.util.List;
import java.util.regex.Matcher;
import java.util.regex.Pattern;

/** What the promises 1 to 5 tell, sentence by sentence: what a call does, what an argument is, what is answered. */
public final class TellsKindsTest {
  public static void main(String[] args) throws Exception {
    partsOfTheInterface();
    addKindAdds();
    addKindTellsOfEnds();
    addKindAnswers();
    addFieldAdds();
    addFieldAnswers();
    fieldsOfCounts();
    isKindTells();
    isKindTakesBoth();
    Check.end("TellsKindsTest");
  }

  // ---- the face

  /** The program has the same words ahead of the same calls, in their order. */
  private static void partsOfTheInterface() throws Exception {
    Edge.says(Edge.TERMS, "Ahead of the calls `addKind`, `addField`, `fieldsOf`, `isKind` the interface says: ---- "
        + "kinds.");
    Edge.sameText("calls", callsUnder("kinds"), dueUnder("kinds"));
    Edge.says(Edge.TERMS, "Ahead of the calls `begin`, `make`, `lock`, `heldBy`, `setNumber`, `number`, `link`, "
        + "`follow`, `setRoot`, `root`, `commit`, `abort`, `crash`, `isOpen` the interface says: ---- transactions.");
    Edge.sameText("calls", callsUnder("transactions"), dueUnder("transactions"));
    Edge.says(Edge.TERMS, "Ahead of the calls `collect`, `phase`, `colourOf`, `cycles`, `freed`, `ends`, `callEnd`, "
        + "`isEnded`, `exists` the interface says: ---- collector.");
    Edge.sameText("calls", callsUnder("collector"), dueUnder("collector"));
    Edge.says(Edge.TERMS, "Ahead of the calls `pageOf`, `sizeOf`, `isConverted`, `pages`, `usedOf`, `forwardsIn`, "
        + "`isInMemory`, `faults`, `forwarded` the interface says: ---- pages and memory.");
    Edge.sameText("calls", callsUnder("pages and memory"), dueUnder("pages and memory"));
    Edge.says(Edge.TERMS, "Ahead of the calls `addIndex`, `countOf`, `countAnew` the interface says: ---- indexes.");
    Edge.sameText("calls", callsUnder("indexes"), dueUnder("indexes"));
    Edge.says(Edge.TERMS, "Ahead of the calls `isReached`, `unreached`, `changes`, `usedShare`, `meanSize`, `isSound` "
        + "the interface says: ---- figures.");
    Edge.sameText("calls", callsUnder("figures"), dueUnder("figures"));
  }

  private static String dueUnder(String head) {
    List<String> names = new ArrayList<>();
    for (String line : Edge.part(Edge.TERMS).split("\n")) {
      if (line.startsWith("Ahead of the calls ") && line.endsWith(" the interface says: ---- " + head + ".")) {
        Matcher name = Pattern.compile("`(\\w+)`").matcher(line);
        while (name.find()) {
          names.add(name.group(1));
        }
      }
    }
    return String.join(" ", names);
  }

  private static String callsUnder(String head) throws Exception {
    List<String> names = new ArrayList<>();
    boolean inside = false;
    Pattern call = Pattern.compile("^  public \\w+ (\\w+)\\(");
    for (String line : Files.readAllLines(Path.of("src", "main", "java", "MarrowHeap.java"))) {
      if (line.startsWith("  // ---- ")) {
        inside = line.equals("  // ---- " + head);
      }
      Matcher name = call.matcher(line);
      if (inside && name.find()) {
        names.add(name.group(1));
      }
    }
    return String.join(" ", names);
  }

  // ---- promises 2 to 5

  private static int kinds(MarrowHeap x) {
    int count = 0;
    for (int kind = 0; kind < 10; kind++) {
      try {
        x.fieldsOf(kind);
        count++;
      } catch (IndexOutOfBoundsException e) {
        // there is no such kind
      }
    }
    return count;
  }

  private static void addKindAdds() {
    Edge.says(2, "Adds a kind.");
    MarrowHeap x = new MarrowHeap();
    for (int count = 1; count <= 8; count++) {
      x.addKind(count % 3 - 1 < count - 1 ? count % 3 - 1 : -1, false);
      Edge.same("one more", kinds(x), count);
    }
    x.begin(0);
    for (int kind = 0; kind < 8; kind++) {
      Edge.yes("objects of it can be made", x.isKind(x.make(0, kind), kind));
    }
  }

  private static void addKindTellsOfEnds() {
    Edge.says(2, "`hasEnd`: whether its objects have an end");
    for (int ends = 0; ends < 4; ends++) {
      MarrowHeap x = new MarrowHeap();
      x.addKind(-1, (ends & 1) != 0);
      x.addKind(-1, (ends & 2) != 0);
      x.begin(0);
      x.make(0, 0);
      x.make(0, 1);
      x.commit(0);
      x.collect(4);
      Edge.same("as many wait, of " + ends, x.ends(), Integer.bitCount(ends));
      Edge.yes("the first waits, or is freed", x.exists(0) == ((ends & 1) != 0));
      Edge.yes("the second waits, or is freed", x.exists(1) == ((ends & 2) != 0));
    }
  }

  private static void addKindAnswers() {
    Edge.says(2, "Returns the number of the kind.");
    MarrowHeap x = new MarrowHeap();
    for (int kind = 0; kind < 8; kind++) {
      Edge.same("the next number, below any parent", x.addKind(kind / 2 - 1, kind % 2 == 0), kind);
      Edge.same("its fields", x.fieldsOf(kind), kind == 0 ? 0 : x.fieldsOf(Math.max(0, kind / 2 - 1)));
    }
  }

  private static void addFieldAdds() {
    Edge.says(3, "Adds a field to a kind.");
    for (char type : "nrw".toCharArray()) {
      MarrowHeap x = new MarrowHeap();
      x.addKind(-1, false);
      x.addKind(-1, false);
      x.begin(0);
      for (int count = 1; count <= 6; count++) {
        x.addField(0, type);
        Edge.same("one more", x.fieldsOf(0), count);
        Edge.same("an object of it has it", x.sizeOf(x.make(0, 0)), 1 + count);
      }
      Edge.same("one of another has none", x.sizeOf(x.make(0, 1)), 1);
    }
    Edge.says(3, "`kind`: the kind");
    for (int kind = 0; kind < 4; kind++) {
      MarrowHeap x = new MarrowHeap();
      x.addKind(-1, false);
      x.addKind(0, false);
      x.addKind(1, false);
      x.addKind(0, false);
      x.addField(kind, 'n');
      int[][] due = {{1, 1, 1, 1}, {0, 1, 1, 0}, {0, 0, 1, 0}, {0, 0, 0, 1}};
      for (int other = 0; other < 4; other++) {
        Edge.same("to " + kind + ", fields of " + other, x.fieldsOf(other), due[kind][other]);
      }
    }
  }

  private static void addFieldAnswers() {
    Edge.says(3, "Returns the number of the field.");
    MarrowHeap x = new MarrowHeap();
    for (int kind = 0; kind < 5; kind++) {
      x.addKind(-1, false);
    }
    x.begin(0);
    for (int field = 0; field < 20; field++) {
      int kind = field * 3 % 5;
      int added = x.addField(kind, 'n');
      Edge.same("one row of numbers for all kinds", added, field);
      int object = x.make(0, kind);
      Edge.same("by it the field is set", x.setNumber(0, object, field, field), 0);
      Edge.same("and read", x.number(0, object, field), field);
      int other = x.make(0, (kind + 1) % 5);
      Edge.fails("another kind does not have it", Edge.ELEMENT, () -> x.number(0, other, added));
      x.abort(0);
      x.begin(0);
    }
  }

  private static void fieldsOfCounts() {
    Edge.says(4, "Returns how many fields a kind has, those of the kinds above it included.");
    MarrowHeap x = new MarrowHeap();
    int[] own = {1, 2, 0, 3};
    for (int kind = 0; kind < 4; kind++) {
      x.addKind(kind - 1, false);
      for (int i = 0; i < own[kind]; i++) {
        x.addField(kind, 'r');
      }
    }
    x.addKind(1, true);
    int[] due = {1, 3, 3, 6, 3};
    for (int kind = 0; kind < 5; kind++) {
      Edge.same("kind " + kind, x.fieldsOf(kind), due[kind]);
    }
    Edge.says(4, "`kind`: the kind");
    x.addField(4, 'n');
    Edge.same("the one to which it was added", x.fieldsOf(4), 4);
    Edge.same("no other", x.fieldsOf(1) + x.fieldsOf(2), 6);
    Edge.says(4, "Returns the number of fields.");
    MarrowHeap y = new MarrowHeap();
    y.addKind(-1, false);
    for (int count = 0; count <= 6; count++) {
      Edge.same("fields", y.fieldsOf(0), count);
      if (count < 6) {
        y.addField(0, "nrw".charAt(count % 3));
      }
    }
  }

  /** Kinds 1 and 2 below 0, 3 below 1, 4 below none; an object of each, with the same number. */
  private static MarrowHeap tree() {
    MarrowHeap x = new MarrowHeap();
    for (int parent : new int[] {-1, 0, 0, 1, -1}) {
      x.addKind(parent, false);
    }
    x.begin(0);
    for (int kind = 0; kind < 5; kind++) {
      x.make(0, kind);
    }
    return x;
  }

  private static void isKindTells() {
    Edge.says(5, "Returns whether an object is of a kind, or of one below it.");
    String[] due = {"+----", "++---", "+-+--", "++-+-", "----+"};
    MarrowHeap x = tree();
    for (int object = 0; object < 5; object++) {
      for (int kind = 0; kind < 5; kind++) {
        Edge.yes(object + " of " + kind, x.isKind(object, kind) == (due[object].charAt(kind) == '+'));
      }
    }
  }

  private static void isKindTakesBoth() {
    MarrowHeap x = tree();
    Edge.says(5, "`object`: the object");
    Edge.yes("1 of kind 1", x.isKind(1, 1));
    Edge.no("2 of kind 1", x.isKind(2, 1));
    Edge.says(5, "`kind`: the kind");
    Edge.yes("3 of kind 1", x.isKind(3, 1));
    Edge.no("3 of kind 2", x.isKind(3, 2));
    Edge.says(5, "Returns whether it is.");
    Edge.yes("made of it", x.isKind(4, 4));
    Edge.no("of the parent, and not of one below", x.isKind(0, 3));
    x.addKind(4, false);
    Edge.no("a kind that comes later below", x.isKind(4, 5));
  }
}
