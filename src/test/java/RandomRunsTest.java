import java.lang.reflect.InvocationTargetException;
import java.lang.reflect.Method;
import java.lang.reflect.Modifier;
import java.util.ArrayList;
import java.util.Arrays;
import java.util.List;
import java.util.Random;
import java.util.TreeMap;

/**
 * Runs of 512 calls, chosen by fixed seeds: each answer is compared with that of the model, and with that
 * of a second object, which gets the calls alone that did not throw: thus a call that throws has changed
 * nothing, not even what shows much later.
 */
public final class RandomRunsTest {
  private static final int RUNS = 120;
  private static final int CALLS = 512;

  private final TreeMap<String, Method> face = new TreeMap<>();
  private final TreeMap<String, Method> modelFace = new TreeMap<>();
  private final TreeMap<String, Integer> seen = new TreeMap<>();
  private Random random;
  private int seed;
  private Model model;
  private MarrowHeap heap;
  private MarrowHeap twin;
  private final List<String> log = new ArrayList<>();
  // what a run is like
  private int kindsWanted;
  private int openWanted;
  private int collecting;
  private int breaking;
  private int growing;
  private int wild;

  public static void main(String[] args) throws Exception {
    int from = args.length > 0 ? Integer.parseInt(args[0]) : 0;
    int runs = args.length > 1 ? Integer.parseInt(args[1]) : RUNS;
    RandomRunsTest test = new RandomRunsTest();
    test.readFaces();
    for (int seed = from; seed < from + runs; seed++) {
      if (!test.run(seed)) {
        System.exit(1);
      }
    }
    if (args.length > 1) {
      System.out.println(test.seen);
    }
    test.checkSeen();
    Check.end("RandomRunsTest");
  }

  private void readFaces() throws Exception {
    for (Method method : MarrowHeap.class.getDeclaredMethods()) {
      if (Modifier.isPublic(method.getModifiers())) {
        face.put(method.getName(), method);
        modelFace.put(method.getName(), Model.class.getDeclaredMethod(method.getName(), method.getParameterTypes()));
      }
    }
    Check.same("methods of the face", face.size(), 45);
  }

  private boolean run(int newSeed) throws Exception {
    seed = newSeed;
    random = new Random(seed);
    model = new Model();
    heap = new MarrowHeap();
    twin = new MarrowHeap();
    log.clear();
    kindsWanted = 1 + random.nextInt(5);
    openWanted = 1 + random.nextInt(3);
    collecting = random.nextInt(12);
    breaking = 1 + random.nextInt(8);
    growing = random.nextInt(4);
    wild = random.nextInt(8);
    for (int i = 0; i < CALLS; i++) {
      Object[] call = i < 8 ? setUp(i) : choose();
      if (!compare(call)) {
        return false;
      }
      if ((i % 8 == 7 || i == CALLS - 1) && !compareAll()) {
        return false;
      }
    }
    return compareWrong();
  }

  // ---- calling and comparing

  private boolean compare(Object... call) throws Exception {
    Model before = model.copy();
    Object[] args = Arrays.copyOfRange(call, 1, call.length);
    String got = answer(face.get(call[0]), heap, args);
    String due = answer(modelFace.get(call[0]), model, args);
    String again = due;
    if (due.startsWith("throws ")) {
      model = before;
    } else {
      again = answer(face.get(call[0]), twin, args);
    }
    log.add(call[0] + Arrays.toString(args) + " = " + got);
    seen.merge(call[0] + (due.startsWith("throws ") ? " " + due : ""), 1, Integer::sum);
    boolean right = got.equals(due) && again.equals(due);
    Check.yes("seed " + seed + " call " + log.size(), right);
    if (!right) {
      for (String line : log) {
        System.out.println(line);
      }
      System.out.println("due is " + due + ", without the calls that throw it is " + again);
    }
    return right;
  }

  private static String answer(Method method, Object object, Object[] args) throws Exception {
    try {
      return String.valueOf(method.invoke(object, args));
    } catch (InvocationTargetException e) {
      return "throws " + e.getCause().getClass().getName();
    }
  }

  private boolean compareAll() throws Exception {
    for (String name : new String[] {"phase", "cycles", "freed", "ends", "pages", "faults", "forwarded",
        "unreached", "changes", "usedShare", "meanSize", "isSound"}) {
      if (!compare(name)) {
        return false;
      }
    }
    for (int object = 0; object < model.made; object++) {
      for (String name : new String[] {"exists", "colourOf", "isEnded", "pageOf", "sizeOf", "isConverted",
          "isReached"}) {
        if (!compare(name, object)) {
          return false;
        }
      }
    }
    for (int page = 0; page < model.pages.size(); page++) {
      for (String name : new String[] {"usedOf", "forwardsIn", "isInMemory"}) {
        if (!compare(name, page)) {
          return false;
        }
      }
    }
    for (int i = 0; i < 4; i++) {
      if (!compare("root", i) || i < 3 && !compare("heldBy", i)) {
        return false;
      }
    }
    for (int index = 0; index < model.indexes.size(); index++) {
      for (int value = -1; value < 4; value++) {
        if (!compare("countOf", index, value) || !compare("countAnew", index, value)) {
          return false;
        }
      }
    }
    return true;
  }

  /** Each call with a strange number at each of its places. */
  private boolean compareWrong() throws Exception {
    for (String name : face.keySet()) {
      Class<?>[] types = face.get(name).getParameterTypes();
      for (int place = 0; place < types.length; place++) {
        for (int strange : new int[] {-2, -1, 99, Integer.MAX_VALUE, Integer.MIN_VALUE}) {
          Object[] call = new Object[1 + types.length];
          call[0] = name;
          for (int i = 0; i < types.length; i++) {
            int value = i == place ? strange : random.nextInt(3);
            call[i + 1] = types[i] == char.class ? (Object) (char) value : types[i] == boolean.class ? (Object) (value > 0) : (Object) value;
          }
          if (!compare(call)) {
            return false;
          }
        }
      }
    }
    return compareAll();
  }

  /** Runs that never come to some answer would compare little. */
  private void checkSeen() {
    for (String name : face.keySet()) {
      Check.yes("seen " + name, seen.containsKey(name));
      for (Class<?> thrown : face.get(name).getExceptionTypes()) {
        String key = name + " throws " + thrown.getName();
        Check.yes("seen " + key, seen.containsKey(key));
      }
    }
  }

  // ---- choosing calls

  private Object[] setUp(int i) {
    if (i == 0 || i == 3 && kindsWanted > 1 || i == 5 && kindsWanted > 2) {
      return new Object[] {"addKind", i == 0 ? -1 : random.nextInt(model.kinds.size() + 1) - 1, random.nextInt(2) == 0};
    }
    return new Object[] {"addField", any(model.kinds.size()), type()};
  }

  private char type() {
    return "nrrw".charAt(random.nextInt(4));
  }

  private int any(int bound) {
    return bound <= 0 ? 0 : random.nextInt(bound);
  }

  private boolean chance(int of, int from) {
    return random.nextInt(from) < of;
  }

  private int number(int bound) {
    if (chance(wild, 200)) {
      int[] strange = {-2, -1, bound, bound + 1, Integer.MAX_VALUE, Integer.MIN_VALUE};
      return strange[random.nextInt(strange.length)];
    }
    return any(bound);
  }

  private int transaction() {
    List<Integer> open = new ArrayList<>();
    for (int i = 0; i < 3; i++) {
      if (model.works[i] != null) {
        open.add(i);
      }
    }
    return chance(wild, 100) || open.isEmpty() ? number(3) : open.get(any(open.size()));
  }

  private int object() {
    List<Integer> all = new ArrayList<>();
    for (Model.Page page : model.pages) {
      all.addAll(page.objects.keySet());
    }
    return chance(wild, 100) || all.isEmpty() ? number(model.made + 1) : all.get(any(all.size()));
  }

  private int heldObject(int t) {
    boolean open = t >= 0 && t < 3 && model.works[t] != null;
    List<Integer> held = new ArrayList<>();
    if (open) {
      held.addAll(model.works[t].held);
    }
    return chance(wild, 60) || held.isEmpty() ? object() : held.get(any(held.size()));
  }

  private int objectOrNone(int t) {
    return chance(1, 6) ? -1 : heldObject(t);
  }

  private int field(int object, boolean number) {
    List<Integer> fitting = new ArrayList<>();
    for (Model.Page page : model.pages) {
      Model.Obj it = page.objects.get(object);
      for (int field = 0; it != null && field < model.types.size(); field++) {
        for (int kind = it.kind; kind >= 0; kind = model.kinds.get(kind).parent) {
          if (model.kinds.get(kind).fields.contains(field) && number == (model.types.get(field) == 'n')) {
            fitting.add(field);
          }
        }
      }
    }
    return chance(wild, 60) || fitting.isEmpty() ? number(model.types.size()) : fitting.get(any(fitting.size()));
  }

  private int value() {
    if (chance(wild, 100)) {
      int[] strange = {-9999, 9999, -10000, 10000, Integer.MAX_VALUE, Integer.MIN_VALUE};
      return strange[random.nextInt(strange.length)];
    }
    return random.nextInt(4);
  }

  private Object[] choose() {
    int openNow = 0;
    for (Model.Work work : model.works) {
      openNow += work == null ? 0 : 1;
    }
    if (openNow < openWanted && chance(1, 3)) {
      return new Object[] {"begin", number(3)};
    }
    int t = transaction();
    int pick = random.nextInt(100);
    if (!model.waiting.isEmpty() && chance(1, 6)) {
      return chance(1, 2) ? new Object[] {"callEnd", t} : new Object[] {"lock", t, object()};
    }
    if (pick < collecting) {
      return new Object[] {"collect", chance(1, 3) ? number(99) : 1 + random.nextInt(4)};
    }
    pick = random.nextInt(100);
    if (pick < 15) {
      return new Object[] {"make", t, number(model.kinds.size())};
    }
    if (pick < 25) {
      return new Object[] {"lock", t, object()};
    }
    if (pick < 30) {
      return new Object[] {"setRoot", t, number(4), objectOrNone(t)};
    }
    if (pick < 33) {
      return new Object[] {"callEnd", t};
    }
    if (pick < 33 + breaking) {
      return ending(t);
    }
    if (pick < 45 && chance(growing, 4)) {
      return growing();
    }
    if (pick < 50 && chance(wild, 12)) {
      return figure();
    }
    return onObject(t);
  }

  private Object[] ending(int t) {
    int pick = random.nextInt(10);
    if (pick < 5) {
      return new Object[] {"commit", t};
    }
    if (pick < 9) {
      return new Object[] {"abort", t};
    }
    return new Object[] {"crash", chance(1, 2) ? -1 : t, number(4)};
  }

  private Object[] growing() {
    int pick = random.nextInt(10);
    if (pick < 3) {
      int[] path = {-1, -1, -1};
      int length = 1 + random.nextInt(3);
      for (int i = 0; i < length; i++) {
        path[i] = chance(1, 5) ? number(model.types.size()) : fieldOf(i == length - 1 ? 'n' : 'r');
      }
      return new Object[] {"addIndex", number(model.kinds.size()), path[0], path[1], path[2]};
    }
    if (pick < 5) {
      return new Object[] {"addKind", number(model.kinds.size() + 1) - 1, chance(1, 2)};
    }
    return new Object[] {"addField", number(model.kinds.size()), chance(wild, 40) ? 'x' : type()};
  }

  private int fieldOf(char type) {
    List<Integer> fitting = new ArrayList<>();
    for (int field = 0; field < model.types.size(); field++) {
      if (model.types.get(field) == type) {
        fitting.add(field);
      }
    }
    return fitting.isEmpty() ? number(model.types.size()) : fitting.get(any(fitting.size()));
  }

  private Object[] figure() {
    String[] names = {"fieldsOf", "isKind", "heldBy", "isOpen", "root", "colourOf", "isEnded", "usedOf",
        "forwardsIn", "isInMemory", "countOf", "countAnew", "meanSize", "usedShare", "isReached", "pageOf",
        "sizeOf", "isConverted", "exists"};
    String name = names[random.nextInt(names.length)];
    int count = face.get(name).getParameterCount();
    Object[] call = new Object[1 + count];
    call[0] = name;
    for (int i = 1; i <= count; i++) {
      call[i] = chance(1, 10) ? random.nextInt(7) - 2 : number(name.equals("root") ? 4 : 3);
    }
    return call;
  }

  private Object[] onObject(int t) {
    int object = heldObject(t);
    int pick = random.nextInt(10);
    if (pick < 2) {
      return new Object[] {"setNumber", t, object, field(object, true), value()};
    }
    if (pick < 4) {
      return new Object[] {"number", t, object, field(object, true)};
    }
    if (pick < 8) {
      return new Object[] {"link", t, object, field(object, false), objectOrNone(t)};
    }
    return new Object[] {"follow", t, object, field(object, false)};
  }
}
