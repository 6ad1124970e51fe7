/** Promises 1 to 5. */
public final class KindsTest {
  public static void main(String[] args) {
    newObjectIsEmpty();
    addKindNumbersAndRefuses();
    addFieldNumbers();
    addFieldRefuses();
    addFieldLimits();
    fieldsOfCountsThoseAbove();
    isKindLooksUp();
    isKindRefuses();
    Check.end("KindsTest");
  }

  private static void newObjectIsEmpty() {
    MarrowHeap x = new MarrowHeap();
    Check.same("pages", x.pages(), 0);
    Check.same("faults", x.faults(), 0);
    Check.same("forwarded", x.forwarded(), 0);
    Check.same("cycles", x.cycles(), 0);
    Check.same("freed", x.freed(), 0);
    Check.same("ends", x.ends(), 0);
    Check.same("changes", x.changes(), 0);
    Check.same("unreached", x.unreached(), 0);
    Check.same("phase", x.phase(), 'i');
    for (int root = 0; root < 4; root++) {
      Check.same("root", x.root(root), -1);
    }
    for (int transaction = 0; transaction < 3; transaction++) {
      Check.no("isOpen", x.isOpen(transaction));
      Check.same("heldBy", x.heldBy(transaction), 0);
    }
    Check.no("exists", x.exists(0));
    Check.yes("isSound", x.isSound());
    Check.fails("fieldsOf(0)", IndexOutOfBoundsException.class, () -> x.fieldsOf(0));
    Check.fails("usedOf(0)", IndexOutOfBoundsException.class, () -> x.usedOf(0));
    Check.fails("countOf(0, 0)", IndexOutOfBoundsException.class, () -> x.countOf(0, 0));
    Check.fails("usedShare", ArithmeticException.class, () -> x.usedShare());
    Check.fails("meanSize", ArithmeticException.class, () -> x.meanSize());
  }

  private static void addKindNumbersAndRefuses() {
    MarrowHeap x = new MarrowHeap();
    Check.fails("parent 0 of none", IllegalArgumentException.class, () -> x.addKind(0, false));
    Check.fails("parent -2", IllegalArgumentException.class, () -> x.addKind(-2, false));
    for (int kind = 0; kind < 8; kind++) {
      int parent = kind - 1;
      Check.fails("parent itself", IllegalArgumentException.class, () -> x.addKind(parent + 1, true));
      Check.same("addKind", x.addKind(parent, kind == 3), kind);
    }
    Check.fails("ninth kind", IllegalStateException.class, () -> x.addKind(-1, false));
    Check.fails("ninth kind below one", IllegalStateException.class, () -> x.addKind(7, false));
    Check.fails("no parent comes first", IllegalArgumentException.class, () -> x.addKind(8, false));
    Check.fails("ninth kind is not there", IndexOutOfBoundsException.class, () -> x.fieldsOf(8));
  }

  private static void addFieldNumbers() {
    MarrowHeap x = new MarrowHeap();
    x.addKind(-1, false);
    x.addKind(-1, false);
    Check.same("first field", x.addField(1, 'n'), 0);
    Check.same("second field", x.addField(0, 'r'), 1);
    Check.same("third field", x.addField(1, 'w'), 2);
    Check.same("fields of 0", x.fieldsOf(0), 1);
    Check.same("fields of 1", x.fieldsOf(1), 2);
  }

  private static void addFieldRefuses() {
    MarrowHeap x = new MarrowHeap();
    Check.fails("no kind", IndexOutOfBoundsException.class, () -> x.addField(0, 'n'));
    x.addKind(-1, false);
    Check.fails("kind 1", IndexOutOfBoundsException.class, () -> x.addField(1, 'n'));
    Check.fails("kind -1", IndexOutOfBoundsException.class, () -> x.addField(-1, 'n'));
    Check.fails("kind before type", IndexOutOfBoundsException.class, () -> x.addField(1, 'x'));
    for (char type : new char[] {'x', 'N', 'R', 'W', 0, ' ', 'o', 'm', 's', 'v', 65535}) {
      Check.fails("type " + (int) type, IllegalArgumentException.class, () -> x.addField(0, type));
    }
    Check.same("none was added", x.fieldsOf(0), 0);
    Check.same("numbers were not used", x.addField(0, 'n'), 0);
  }

  private static void addFieldLimits() {
    MarrowHeap x = new MarrowHeap();
    x.addKind(-1, false);
    x.addKind(0, false);
    x.addKind(0, false);
    x.addKind(1, false);
    for (int i = 0; i < 6; i++) {
      x.addField(3, 'n');
    }
    Check.fails("seventh field", IllegalStateException.class, () -> x.addField(3, 'n'));
    Check.fails("type comes first", IllegalArgumentException.class, () -> x.addField(3, 'x'));
    Check.fails("seventh below", IllegalStateException.class, () -> x.addField(1, 'n'));
    Check.fails("seventh two below", IllegalStateException.class, () -> x.addField(0, 'n'));
    Check.same("beside it", x.addField(2, 'n'), 6);
    x.addKind(-1, false);
    x.addKind(-1, false);
    x.addKind(-1, false);
    for (int i = 7; i < 20; i++) {
      Check.same("field", x.addField(4 + (i - 7) / 5, 'r'), i);
    }
    Check.fails("twenty-first field", IllegalStateException.class, () -> x.addField(6, 'n'));
    Check.same("fields of 6", x.fieldsOf(6), 3);
    Check.same("a kind below a full one", x.addKind(3, false), 7);
    Check.same("has its fields", x.fieldsOf(7), 6);
  }

  private static void fieldsOfCountsThoseAbove() {
    MarrowHeap x = new MarrowHeap();
    x.addKind(-1, false);
    x.addField(0, 'n');
    x.addKind(0, false);
    x.addField(1, 'r');
    x.addKind(1, false);
    Check.same("fields of 0", x.fieldsOf(0), 1);
    Check.same("fields of 1", x.fieldsOf(1), 2);
    Check.same("fields of 2", x.fieldsOf(2), 2);
    x.addField(2, 'w');
    x.addField(0, 'w');
    Check.same("fields of 0 later", x.fieldsOf(0), 2);
    Check.same("fields of 1 later", x.fieldsOf(1), 3);
    Check.same("fields of 2 later", x.fieldsOf(2), 4);
    Check.fails("fieldsOf(3)", IndexOutOfBoundsException.class, () -> x.fieldsOf(3));
    Check.fails("fieldsOf(-1)", IndexOutOfBoundsException.class, () -> x.fieldsOf(-1));
  }

  private static void isKindLooksUp() {
    MarrowHeap x = new MarrowHeap();
    x.addKind(-1, false);
    x.addKind(0, false);
    x.addKind(1, false);
    x.addKind(0, false);
    x.begin(0);
    x.make(0, 1);
    x.make(0, 2);
    boolean[] ofOne = {true, true, false, false};
    boolean[] ofTwo = {true, true, true, false};
    for (int kind = 0; kind < 4; kind++) {
      Check.yes("object 0, kind " + kind, x.isKind(0, kind) == ofOne[kind]);
      Check.yes("object 1, kind " + kind, x.isKind(1, kind) == ofTwo[kind]);
    }
  }

  private static void isKindRefuses() {
    MarrowHeap x = new MarrowHeap();
    Check.fails("nothing there", IndexOutOfBoundsException.class, () -> x.isKind(0, 0));
    x.addKind(-1, false);
    Check.fails("no object", IndexOutOfBoundsException.class, () -> x.isKind(0, 0));
    x.begin(0);
    x.make(0, 0);
    Check.yes("there", x.isKind(0, 0));
    Check.fails("object -1", IndexOutOfBoundsException.class, () -> x.isKind(-1, 0));
    Check.fails("object 1", IndexOutOfBoundsException.class, () -> x.isKind(1, 0));
    Check.fails("kind 1", IndexOutOfBoundsException.class, () -> x.isKind(0, 1));
    Check.fails("kind -1", IndexOutOfBoundsException.class, () -> x.isKind(0, -1));
    x.abort(0);
    Check.fails("object undone", IndexOutOfBoundsException.class, () -> x.isKind(0, 0));
  }
}
