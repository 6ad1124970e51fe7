import java.util.ArrayList;
import java.util.HashSet;
import java.util.List;
import java.util.NoSuchElementException;
import java.util.Set;
import java.util.TreeMap;
import java.util.TreeSet;

/**
 * The document written down a second time, as plainly as may be and in another shape than the program:
 * pages hold their objects themselves, an abort puts copies of whole pages back, and a call that throws
 * is taken back by going on with a copy of everything (see RandomRunsTest).
 */
final class Model {
  static final class Kind {
    int parent;
    boolean end;
    List<Integer> fields = new ArrayList<>();
  }

  static final class Ref {
    int object = -1;
    int page = -1;
  }

  static final class Obj {
    int kind;
    TreeMap<Integer, Integer> numbers = new TreeMap<>();
    TreeMap<Integer, Ref> refs = new TreeMap<>();

    int size() {
      return 1 + numbers.size() + refs.size();
    }

    Obj copy() {
      Obj copy = new Obj();
      copy.kind = kind;
      copy.numbers.putAll(numbers);
      for (int field : refs.keySet()) {
        Ref ref = new Ref();
        ref.object = refs.get(field).object;
        ref.page = refs.get(field).page;
        copy.refs.put(field, ref);
      }
      return copy;
    }
  }

  static final class Page {
    TreeMap<Integer, Obj> objects = new TreeMap<>();
    int forwards;

    int used() {
      int sum = forwards;
      for (Obj object : objects.values()) {
        sum += object.size();
      }
      return sum;
    }

    Page copy() {
      Page copy = new Page();
      for (int number : objects.keySet()) {
        copy.objects.put(number, objects.get(number).copy());
      }
      copy.forwards = forwards;
      return copy;
    }
  }

  static final class Work {
    TreeMap<Integer, Page> before = new TreeMap<>();
    TreeMap<Integer, Integer> rootsBefore = new TreeMap<>();
    TreeSet<Integer> madePages = new TreeSet<>();
    TreeSet<Integer> held = new TreeSet<>();

    Work copy() {
      Work copy = new Work();
      for (int page : before.keySet()) {
        copy.before.put(page, before.get(page).copy());
      }
      copy.rootsBefore.putAll(rootsBefore);
      copy.madePages.addAll(madePages);
      copy.held.addAll(held);
      return copy;
    }
  }

  List<Kind> kinds = new ArrayList<>();
  List<Character> types = new ArrayList<>();
  List<Page> pages = new ArrayList<>();
  List<Integer> memory = new ArrayList<>(); // the page that was used last stands last
  Work[] works = new Work[3];
  int[] roots = {-1, -1, -1, -1};
  List<int[]> indexes = new ArrayList<>();
  List<Integer> waiting = new ArrayList<>();
  Set<Integer> called = new HashSet<>();
  TreeMap<Integer, Character> colours = new TreeMap<>();
  char phase = 'i';
  int made;
  int cycles;
  int freed;
  int faults;
  int forwarded;
  long changes;

  Model copy() {
    Model copy = new Model();
    for (Kind kind : kinds) {
      Kind other = new Kind();
      other.parent = kind.parent;
      other.end = kind.end;
      other.fields.addAll(kind.fields);
      copy.kinds.add(other);
    }
    copy.types.addAll(types);
    for (Page page : pages) {
      copy.pages.add(page.copy());
    }
    copy.memory.addAll(memory);
    for (int i = 0; i < 3; i++) {
      copy.works[i] = works[i] == null ? null : works[i].copy();
    }
    copy.roots = roots.clone();
    copy.indexes.addAll(indexes);
    copy.waiting.addAll(waiting);
    copy.called.addAll(called);
    copy.colours.putAll(colours);
    copy.phase = phase;
    copy.made = made;
    copy.cycles = cycles;
    copy.freed = freed;
    copy.faults = faults;
    copy.forwarded = forwarded;
    copy.changes = changes;
    return copy;
  }

  // ---- looking things up

  private int pageOf(List<Page> where, int object) {
    for (int page = 0; page < where.size(); page++) {
      if (where.get(page).objects.containsKey(object)) {
        return page;
      }
    }
    return -1;
  }

  private Obj find(List<Page> where, int object) {
    int page = pageOf(where, object);
    return page < 0 ? null : where.get(page).objects.get(object);
  }

  /** The pages as they would be if all open transactions were undone. */
  private List<Page> undonePages() {
    List<Page> all = new ArrayList<>();
    for (int page = 0; page < pages.size(); page++) {
      Page then = pages.get(page);
      for (Work work : works) {
        if (work != null && work.before.containsKey(page)) {
          then = work.before.get(page);
        }
      }
      all.add(then);
    }
    return all;
  }

  private int undoneRoot(int root) {
    for (Work work : works) {
      if (work != null && work.rootsBefore.containsKey(root)) {
        return work.rootsBefore.get(root);
      }
    }
    return roots[root];
  }

  private TreeSet<Integer> all() {
    TreeSet<Integer> all = new TreeSet<>();
    for (Page page : pages) {
      all.addAll(page.objects.keySet());
    }
    return all;
  }

  boolean exists(int object) {
    return pageOf(pages, object) >= 0;
  }

  private boolean below(int kind, int top) {
    return kind == top || kind >= 0 && below(kinds.get(kind).parent, top);
  }

  private List<Integer> rowOf(int kind) {
    List<Integer> list = new ArrayList<>();
    for (int at = kind; at >= 0; at = kinds.get(at).parent) {
      list.addAll(kinds.get(at).fields);
    }
    return list;
  }

  private boolean hasEnd(int kind) {
    return kind >= 0 && (kinds.get(kind).end || hasEnd(kinds.get(kind).parent));
  }

  private int holder(int object) {
    for (int i = 0; i < 3; i++) {
      if (works[i] != null && works[i].held.contains(object)) {
        return i;
      }
    }
    return -1;
  }

  private int changer(int page) {
    for (int i = 0; i < 3; i++) {
      if (works[i] != null && works[i].before.containsKey(page)) {
        return i;
      }
    }
    return -1;
  }

  private TreeSet<Integer> strong(Obj object) {
    TreeSet<Integer> targets = new TreeSet<>();
    for (int field : object.refs.keySet()) {
      if (types.get(field) == 'r' && exists(object.refs.get(field).object)) {
        targets.add(object.refs.get(field).object);
      }
    }
    return targets;
  }

  private TreeSet<Integer> closure(Set<Integer> from) {
    TreeSet<Integer> reached = new TreeSet<>();
    List<Integer> open = new ArrayList<>(from);
    while (!open.isEmpty()) {
      int object = open.remove(open.size() - 1);
      if (exists(object) && reached.add(object)) {
        open.addAll(strong(find(pages, object)));
      }
    }
    return reached;
  }

  private TreeSet<Integer> fromRoots() {
    TreeSet<Integer> start = new TreeSet<>();
    for (int root : roots) {
      start.add(root);
    }
    return closure(start);
  }

  private TreeSet<Integer> inHand() {
    TreeSet<Integer> start = fromRoots();
    for (Work work : works) {
      if (work != null) {
        start.addAll(work.held);
      }
    }
    start.addAll(waiting);
    return closure(start);
  }

  // ---- checks

  private static void argument(boolean right) {
    if (!right) {
      throw new IllegalArgumentException();
    }
  }

  private static void index(boolean right) {
    if (!right) {
      throw new IndexOutOfBoundsException();
    }
  }

  private static void state(boolean right) {
    if (!right) {
      throw new IllegalStateException();
    }
  }

  private static void element(boolean right) {
    if (!right) {
      throw new NoSuchElementException();
    }
  }

  private static void operation(boolean right) {
    if (!right) {
      throw new UnsupportedOperationException();
    }
  }

  // ---- pages and memory

  private void bring(int page) {
    if (!memory.contains(page)) {
      if (memory.size() == 4) {
        int leaves = -1;
        for (int candidate : memory) {
          if (leaves < 0 && changer(candidate) < 0) {
            leaves = candidate;
          }
        }
        operation(leaves >= 0);
        memory.remove((Integer) leaves);
      }
      faults++;
    }
    memory.remove((Integer) page);
    memory.add(page);
  }

  private void change(int t, int page) {
    int by = changer(page);
    operation(by < 0 || by == t);
    if (by < 0) {
      works[t].before.put(page, pages.get(page).copy());
    }
  }

  private int place(int t, int size) {
    for (int page = 0; page < pages.size(); page++) {
      int by = changer(page);
      if ((by < 0 || by == t) && pages.get(page).used() + size <= 16) {
        return page;
      }
    }
    operation(pages.size() < 12);
    pages.add(new Page());
    works[t].madePages.add(pages.size() - 1);
    return pages.size() - 1;
  }

  private void complete(Obj object) {
    for (int field : rowOf(object.kind)) {
      if (types.get(field) == 'n') {
        object.numbers.putIfAbsent(field, 0);
      } else {
        object.refs.putIfAbsent(field, new Ref());
      }
    }
  }

  private void meet(int t, int number) {
    int page = pageOf(pages, number);
    bring(page);
    Obj object = find(pages, number);
    int whole = 1 + rowOf(object.kind).size();
    if (object.size() == whole) {
      return;
    }
    change(t, page);
    if (pages.get(page).used() - object.size() + whole <= 16) {
      complete(object);
      return;
    }
    int next = place(t, whole);
    change(t, next);
    bring(next);
    pages.get(page).objects.remove(number);
    pages.get(page).forwards++;
    complete(object);
    pages.get(next).objects.put(number, object);
  }

  private void undo(int t) {
    Work work = works[t];
    for (int page : work.before.keySet()) {
      pages.set(page, work.before.get(page));
    }
    for (int root : work.rootsBefore.keySet()) {
      roots[root] = work.rootsBefore.get(root);
    }
    while (!pages.isEmpty()) {
      int last = pages.size() - 1;
      if (!work.madePages.contains(last) || pages.get(last).used() > 0) {
        break;
      }
      pages.remove(last);
      memory.remove((Integer) last);
    }
    works[t] = null;
  }

  // ---- the collector

  private boolean white(int object) {
    return exists(object) && colours.get(object) == 'w';
  }

  private boolean pinned(int object) {
    return changer(pageOf(pages, object)) >= 0;
  }

  private boolean greyAll(Set<Integer> objects) {
    boolean any = false;
    for (int object : objects) {
      if (white(object)) {
        colours.put(object, 'g');
        any = true;
      }
    }
    return any;
  }

  private Set<Integer> anchors() {
    Set<Integer> set = new HashSet<>(waiting);
    for (int root = 0; root < 4; root++) {
      set.add(roots[root]);
      set.add(undoneRoot(root));
    }
    for (Work work : works) {
      if (work != null) {
        set.addAll(work.held);
      }
    }
    return set;
  }

  /** 1 for a step that was made, 0 for none to make, -1 for one that is hindered. */
  private int attempt() {
    switch (phase) {
      case 'i':
        for (int object : all()) {
          colours.put(object, 'w');
        }
        greyAll(anchors());
        phase = 'm';
        return 1;
      case 'm':
        for (int object : all()) {
          if (colours.get(object) == 'g') {
            colours.put(object, 'b');
            greyAll(strong(find(pages, object)));
            Obj then = find(undonePages(), object);
            if (then != null) {
              greyAll(strong(then));
            }
            return 1;
          }
        }
        return greyAll(anchors()) ? 1 : 0;
      case 'w':
        for (int object : all()) {
          List<Ref> lost = new ArrayList<>();
          Obj it = find(pages, object);
          for (int field : it.refs.keySet()) {
            if (types.get(field) == 'w' && white(it.refs.get(field).object)) {
              lost.add(it.refs.get(field));
            }
          }
          if (!lost.isEmpty()) {
            if (pinned(object)) {
              return -1;
            }
            for (Ref ref : lost) {
              ref.object = -1;
            }
            return 1;
          }
        }
        return 0;
      case 'e':
        for (int object : all()) {
          boolean passed = called.contains(object) || waiting.contains(object);
          if (white(object) && !passed && hasEnd(find(pages, object).kind)) {
            waiting.add(object);
            for (int reached : closure(Set.of(object))) {
              colours.put(reached, 'b');
            }
            return 1;
          }
        }
        return 0;
      case 's':
        for (int object : all()) {
          if (white(object)) {
            if (pinned(object)) {
              return -1;
            }
            pages.get(pageOf(pages, object)).objects.remove(object);
            freed++;
            return 1;
          }
        }
        return 0;
      default:
        return attemptToFix();
    }
  }

  private int attemptToFix() {
    for (int object : all()) {
      boolean astray = false;
      for (Ref ref : find(pages, object).refs.values()) {
        astray |= exists(ref.object) && ref.page != pageOf(pages, ref.object);
      }
      if (astray) {
        if (pinned(object)) {
          return -1;
        }
        for (Ref ref : find(pages, object).refs.values()) {
          ref.page = pageOf(pages, ref.object);
        }
        return 1;
      }
    }
    int sum = 0;
    for (int page = 0; page < pages.size(); page++) {
      sum += pages.get(page).forwards;
      if (pages.get(page).forwards > 0 && changer(page) >= 0) {
        return -1;
      }
    }
    for (Page page : pages) {
      page.forwards = 0;
    }
    return sum > 0 ? 1 : 0;
  }

  // ---- the calls; the names are those of the face

  private void transaction(int t) {
    argument(t >= 0 && t < 3);
  }

  private void open(int t) {
    state(works[t] != null);
  }

  int addKind(int parent, boolean end) {
    argument(parent >= -1 && parent < kinds.size());
    state(kinds.size() < 8);
    Kind kind = new Kind();
    kind.parent = parent;
    kind.end = end;
    kinds.add(kind);
    return kinds.size() - 1;
  }

  private boolean isKindNumber(int kind) {
    return kind >= 0 && kind < kinds.size();
  }

  int addField(int kind, char type) {
    index(isKindNumber(kind));
    argument(type == 'n' || type == 'r' || type == 'w');
    state(types.size() < 20);
    for (int other = 0; other < kinds.size(); other++) {
      state(!below(other, kind) || rowOf(other).size() < 6);
    }
    types.add(type);
    kinds.get(kind).fields.add(types.size() - 1);
    return types.size() - 1;
  }

  int fieldsOf(int kind) {
    index(isKindNumber(kind));
    return rowOf(kind).size();
  }

  boolean isKind(int object, int kind) {
    index(exists(object) && isKindNumber(kind));
    return below(find(pages, object).kind, kind);
  }

  int begin(int t) {
    transaction(t);
    state(works[t] == null);
    works[t] = new Work();
    return openOnes();
  }

  private int openOnes() {
    int count = 0;
    for (Work work : works) {
      count += work == null ? 0 : 1;
    }
    return count;
  }

  int make(int t, int kind) {
    transaction(t);
    index(isKindNumber(kind));
    open(t);
    state(made < 100);
    Obj object = new Obj();
    object.kind = kind;
    complete(object);
    int page = place(t, object.size());
    bring(page);
    change(t, page);
    pages.get(page).objects.put(made, object);
    works[t].held.add(made);
    colours.put(made, phase == 'i' ? 'w' : 'b');
    return made++;
  }

  int lock(int t, int object) {
    transaction(t);
    index(exists(object));
    open(t);
    element(inHand().contains(object));
    Set<Integer> reached = closure(Set.of(object));
    for (int one : reached) {
      operation(holder(one) < 0 || holder(one) == t);
    }
    int before = works[t].held.size();
    works[t].held.addAll(reached);
    return works[t].held.size() - before;
  }

  int heldBy(int t) {
    transaction(t);
    return works[t] == null ? 0 : works[t].held.size();
  }

  private void held(int t, int object) {
    open(t);
    state(works[t].held.contains(object));
  }

  private void field(int object, int field, boolean number) {
    element(rowOf(find(pages, object).kind).contains(field));
    element(number == (types.get(field) == 'n'));
  }

  int setNumber(int t, int object, int field, int value) {
    argument(t >= 0 && t < 3 && value >= -9999 && value <= 9999);
    index(exists(object));
    held(t, object);
    field(object, field, true);
    meet(t, object);
    change(t, pageOf(pages, object));
    changes++;
    return find(pages, object).numbers.put(field, value);
  }

  int number(int t, int object, int field) {
    transaction(t);
    index(exists(object));
    held(t, object);
    field(object, field, true);
    meet(t, object);
    return find(pages, object).numbers.get(field);
  }

  int link(int t, int object, int field, int target) {
    transaction(t);
    index(exists(object) && (target == -1 || exists(target)));
    held(t, object);
    state(target == -1 || works[t].held.contains(target));
    field(object, field, false);
    meet(t, object);
    change(t, pageOf(pages, object));
    changes++;
    Ref ref = find(pages, object).refs.get(field);
    int before = exists(ref.object) ? ref.object : -1;
    ref.object = target;
    ref.page = pageOf(pages, target);
    if (types.get(field) == 'r' && phase == 'm') {
      greyAll(Set.of(target));
    }
    return before;
  }

  int follow(int t, int object, int field) {
    transaction(t);
    index(exists(object));
    held(t, object);
    field(object, field, false);
    meet(t, object);
    Ref ref = find(pages, object).refs.get(field);
    if (!exists(ref.object)) {
      return -1;
    }
    if (ref.page != pageOf(pages, ref.object)) {
      forwarded++;
    }
    return ref.object;
  }

  int setRoot(int t, int root, int object) {
    argument(t >= 0 && t < 3 && root >= 0 && root < 4);
    index(object == -1 || exists(object));
    open(t);
    state(object == -1 || works[t].held.contains(object));
    for (int i = 0; i < 3; i++) {
      operation(i == t || works[i] == null || !works[i].rootsBefore.containsKey(root));
    }
    int before = roots[root];
    works[t].rootsBefore.putIfAbsent(root, before);
    roots[root] = object;
    if (phase == 'm') {
      greyAll(Set.of(object));
    }
    return before;
  }

  int root(int root) {
    argument(root >= 0 && root < 4);
    return roots[root];
  }

  int commit(int t) {
    transaction(t);
    open(t);
    int changed = works[t].before.size();
    works[t] = null;
    return changed;
  }

  int abort(int t) {
    transaction(t);
    open(t);
    int changed = works[t].before.size();
    undo(t);
    return changed;
  }

  int crash(int t, int steps) {
    argument(t >= -1 && t < 3 && steps >= 0);
    if (t >= 0) {
      open(t);
      if (steps >= works[t].before.size() + 1) {
        works[t] = null;
      }
    }
    int undone = openOnes();
    for (int i = 0; i < 3; i++) {
      if (works[i] != null) {
        undo(i);
      }
    }
    memory.clear();
    return undone;
  }

  boolean isOpen(int t) {
    transaction(t);
    return works[t] != null;
  }

  int collect(int steps) {
    argument(steps >= 1 && steps <= 99);
    int done = 0;
    while (done < steps) {
      int outcome = attempt();
      if (outcome < 0) {
        return done;
      }
      if (outcome > 0) {
        done++;
      } else if (phase == 'f') {
        phase = 'i';
        cycles++;
      } else {
        phase = "mwesf".charAt("mwesf".indexOf(phase) + 1);
      }
    }
    return done;
  }

  char colourOf(int object) {
    index(exists(object));
    return colours.get(object);
  }

  int callEnd(int t) {
    transaction(t);
    open(t);
    element(!waiting.isEmpty());
    int object = waiting.get(0);
    operation(holder(object) < 0 || holder(object) == t);
    waiting.remove(0);
    called.add(object);
    works[t].held.add(object);
    return object;
  }

  boolean isEnded(int object) {
    index(exists(object));
    return called.contains(object);
  }

  int pageOf(int object) {
    index(exists(object));
    return pageOf(pages, object);
  }

  int sizeOf(int object) {
    index(exists(object));
    return find(pages, object).size();
  }

  boolean isConverted(int object) {
    index(exists(object));
    Obj it = find(pages, object);
    return it.size() == 1 + rowOf(it.kind).size();
  }

  private void page(int page) {
    index(page >= 0 && page < pages.size());
  }

  int usedOf(int page) {
    page(page);
    return pages.get(page).used();
  }

  int forwardsIn(int page) {
    page(page);
    return pages.get(page).forwards;
  }

  boolean isInMemory(int page) {
    page(page);
    return memory.contains(page);
  }

  private char typeOf(int field) {
    return field >= 0 && field < types.size() ? types.get(field) : '?';
  }

  int addIndex(int kind, int first, int second, int third) {
    index(isKindNumber(kind));
    int[] path = {first, second, third};
    int length = third != -1 ? 3 : second != -1 ? 2 : first != -1 ? 1 : 0;
    argument(length > 0 && typeOf(path[length - 1]) == 'n');
    for (int i = 0; i < length - 1; i++) {
      argument(typeOf(path[i]) == 'r');
    }
    state(indexes.size() < 3);
    indexes.add(new int[] {kind, first, second, third});
    return indexes.size() - 1;
  }

  int countOf(int index, int value) {
    index(index >= 0 && index < indexes.size());
    int[] it = indexes.get(index);
    int count = 0;
    for (int object : all()) {
      if (below(find(pages, object).kind, it[0])) {
        Integer found = walk(object, it);
        count += found != null && found == value ? 1 : 0;
      }
    }
    return count;
  }

  private Integer walk(int object, int[] path) {
    int at = object;
    for (int i = 1; i < 4; i++) {
      Obj it = find(pages, at);
      if (it == null || !rowOf(it.kind).contains(path[i])) {
        return null;
      }
      if (types.get(path[i]) == 'n') {
        return it.numbers.getOrDefault(path[i], 0);
      }
      at = it.refs.containsKey(path[i]) ? it.refs.get(path[i]).object : -1;
    }
    return null;
  }

  int countAnew(int index, int value) {
    return countOf(index, value);
  }

  char phase() {
    return phase;
  }

  int cycles() {
    return cycles;
  }

  int freed() {
    return freed;
  }

  int ends() {
    return waiting.size();
  }

  int pages() {
    return pages.size();
  }

  int faults() {
    return faults;
  }

  int forwarded() {
    return forwarded;
  }

  long changes() {
    return changes;
  }

  boolean isReached(int object) {
    index(exists(object));
    return fromRoots().contains(object);
  }

  int unreached() {
    return all().size() - inHand().size();
  }

  float usedShare() {
    if (pages.isEmpty()) {
      throw new ArithmeticException();
    }
    int used = 0;
    for (Page page : pages) {
      used += page.used();
    }
    return (float) used / (float) (16 * pages.size());
  }

  double meanSize() {
    if (all().isEmpty()) {
      throw new ArithmeticException();
    }
    int sum = 0;
    for (int object : all()) {
      sum += find(pages, object).size();
    }
    return (double) sum / (double) all().size();
  }

  /** By the document all is always sound; what the model itself holds is looked at all the same. */
  boolean isSound() {
    for (Page page : pages) {
      if (page.used() > 16) {
        return false;
      }
    }
    for (int object : inHand()) {
      Obj it = find(pages, object);
      for (int field : it.refs.keySet()) {
        int target = it.refs.get(field).object;
        if (types.get(field) == 'r' && target != -1 && !exists(target)) {
          return false;
        }
      }
      if ((phase == 'w' || phase == 'e' || phase == 's') && colours.get(object) == 'w') {
        return false;
      }
    }
    return true;
  }
}
