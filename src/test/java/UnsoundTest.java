import java.lang.reflect.Field;

/**
 * Promise 46, from its other side: no run of calls comes to a state that is not sound, so this test breaks
 * the state from outside. The names of fields in it are those of the program; change them together.
 */
public final class UnsoundTest {
  public static void main(String[] args) throws Exception {
    Check.yes("sound at first", marked().isSound());
    MarrowHeap units = marked();
    int[] used = (int[]) get(get(get(units, "store"), "now"), "used");
    used[0]++;
    Check.no("units do not add up", units.isSound());
    used[0]--;
    Check.yes("they do again", units.isSound());
    MarrowHeap full = marked();
    ((int[]) get(get(get(full, "store"), "now"), "used"))[0] += 16;
    ((int[]) get(get(get(full, "store"), "now"), "forwards"))[0] += 16;
    Check.no("more than 16 units", full.isSound());
    breakReferences();
    breakIndex();
    breakColours();
    Check.end("UnsoundTest");
  }

  /** 0 -> 1 from a root, 2 is not in hand and refers to 3; the collector is in the phase 's' and has freed 2. */
  private static MarrowHeap marked() {
    MarrowHeap x = new MarrowHeap();
    x.addKind(-1, false);
    x.addField(0, 'n');
    x.addField(0, 'r');
    x.addField(0, 'w');
    x.addIndex(0, 1, 0, -1);
    x.begin(0);
    for (int i = 0; i < 4; i++) {
      x.make(0, 0);
    }
    x.link(0, 0, 1, 1);
    x.link(0, 3, 1, 2);
    x.setRoot(0, 0, 0);
    x.commit(0);
    x.collect(4);
    Check.same("phase", x.phase(), 's');
    Check.no("freed", x.exists(2));
    Check.yes("not yet freed", x.exists(3));
    return x;
  }

  private static Object get(Object object, String name) throws Exception {
    Field field = object.getClass().getDeclaredField(name);
    field.setAccessible(true);
    return field.get(object);
  }

  private static void breakReferences() throws Exception {
    MarrowHeap x = marked();
    Check.yes("what is not in hand may refer to what is not there", x.isSound());
    int[][] value = (int[][]) get(get(get(x, "store"), "now"), "value");
    value[1][2] = 2;
    Check.yes("a weak reference may", x.isSound());
    value[1][2] = -1;
    value[1][1] = 2;
    Check.no("what is in hand may not", x.isSound());
    value[1][1] = -1;
    Check.yes("none is none", x.isSound());
    value[0][1] = 2;
    Check.no("nor may the first object", x.isSound());
    breakFirstReference();
  }

  private static void breakFirstReference() throws Exception {
    MarrowHeap x = new MarrowHeap();
    x.addKind(-1, false);
    for (int field = 0; field < 6; field++) {
      x.addField(0, 'r');
    }
    x.begin(0);
    x.make(0, 0);
    x.setRoot(0, 0, 0);
    int[][] value = (int[][]) get(get(get(x, "store"), "now"), "value");
    for (int field = 0; field < 6; field++) {
      value[0][field] = 1;
      Check.no("its reference " + field, x.isSound());
      value[0][field] = -1;
      Check.yes("right again", x.isSound());
    }
  }

  private static void breakIndex() throws Exception {
    MarrowHeap x = marked();
    int[][] kept = (int[][]) get(get(x, "indexes"), "kept");
    Check.same("kept", x.countOf(0, 0), 1);
    kept[0][0] = 5;
    Check.same("kept otherwise", x.countOf(0, 0), 0);
    Check.same("found anew", x.countAnew(0, 0), 1);
    Check.no("index is not as found anew", x.isSound());
  }

  private static void breakColours() throws Exception {
    MarrowHeap x = marked();
    char[] colour = (char[]) get(get(x, "collector"), "colour");
    Check.yes("white, not in hand", x.isSound() && colour[3] == 'w');
    colour[1] = 'w';
    Check.no("white in s", x.isSound());
    Field phase = get(x, "collector").getClass().getDeclaredField("phaseNow");
    phase.setAccessible(true);
    String letters = "imwesf";
    for (int i = 0; i < 6; i++) {
      phase.setInt(get(x, "collector"), i);
      Check.same("phase", x.phase(), letters.charAt(i));
      Check.yes("white in " + letters.charAt(i), x.isSound() == (i < 2 || i == 5));
    }
  }
}
