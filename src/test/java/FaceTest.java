import java.lang.reflect.Constructor;
import java.lang.reflect.Field;
import java.lang.reflect.Method;
import java.lang.reflect.Modifier;
import java.nio.file.Files;
import java.nio.file.Path;
import java.util.TreeSet;

/** The public face is that of the document, word by word, and nothing else can be seen from outside. */
public final class FaceTest {
  public static void main(String[] args) throws Exception {
    TreeSet<String> due = new TreeSet<>();
    boolean face = false;
    for (String line : Files.readAllLines(document())) {
      if (line.startsWith("public final class MarrowHeap {")) {
        face = true;
      } else if (face && line.equals("}")) {
        break;
      } else if (face) {
        due.add(line.trim());
      }
    }
    TreeSet<String> got = new TreeSet<>();
    for (Constructor<?> constructor : MarrowHeap.class.getDeclaredConstructors()) {
      Check.yes("public constructor", Modifier.isPublic(constructor.getModifiers()));
      got.add("public MarrowHeap(" + names(constructor.getParameterTypes()) + ");");
    }
    TreeSet<String> publicNames = new TreeSet<>();
    for (Method method : MarrowHeap.class.getDeclaredMethods()) {
      if (Modifier.isPublic(method.getModifiers())) {
        publicNames.add(method.getName());
        got.add(signature(method));
      }
    }
    TreeSet<String> dueTypes = new TreeSet<>();
    for (String line : due) {
      dueTypes.add(withoutNames(line));
    }
    Check.sameText("face", String.join("\n", got), String.join("\n", dueTypes));
    Check.yes("final", Modifier.isFinal(MarrowHeap.class.getModifiers()));
    Check.yes("public", Modifier.isPublic(MarrowHeap.class.getModifiers()));
    onlyPrivateElse(publicNames);
    Check.end("FaceTest");
  }

  private static Path document() {
    return Path.of("..", "shared", "DOC.md");
  }

  private static String names(Class<?>[] types) {
    StringBuilder text = new StringBuilder();
    for (Class<?> type : types) {
      text.append(text.length() == 0 ? "" : ", ").append(type.getSimpleName());
    }
    return text.toString();
  }

  private static String signature(Method method) {
    StringBuilder text = new StringBuilder("public ");
    text.append(method.getReturnType().getSimpleName()).append(' ').append(method.getName());
    text.append('(').append(names(method.getParameterTypes())).append(')');
    if (method.getExceptionTypes().length > 0) {
      text.append(" throws ").append(names(method.getExceptionTypes()));
    }
    return text.append(';').toString();
  }

  private static String withoutNames(String line) {
    int open = line.indexOf('(');
    int close = line.indexOf(')');
    String parameters = line.substring(open + 1, close).replaceAll("(\\w+) \\w+", "$1");
    return line.substring(0, open + 1) + parameters + line.substring(close);
  }

  private static void onlyPrivateElse(TreeSet<String> publicNames) {
    for (Method method : MarrowHeap.class.getDeclaredMethods()) {
      if (!Modifier.isPublic(method.getModifiers())) {
        Check.yes("private " + method.getName(), Modifier.isPrivate(method.getModifiers()));
        Check.no("a public name: " + method.getName(), publicNames.contains(method.getName()));
      }
    }
    for (Field field : MarrowHeap.class.getDeclaredFields()) {
      Check.yes("private " + field.getName(), Modifier.isPrivate(field.getModifiers()));
    }
    Class<?>[] inside = MarrowHeap.class.getDeclaredClasses();
    Check.yes("at most twelve classes", inside.length <= 11);
    for (Class<?> one : inside) {
      Check.yes("static " + one, Modifier.isStatic(one.getModifiers()));
      Check.no("hidden " + one, Modifier.isPublic(one.getModifiers()) || Modifier.isProtected(one.getModifiers()));
      int fields = 0;
      for (Field field : one.getDeclaredFields()) {
        boolean fixed = Modifier.isStatic(field.getModifiers());
        Check.yes("static is final", !fixed || Modifier.isFinal(field.getModifiers()));
        fields += fixed ? 0 : 1;
      }
      Check.yes("at most twenty fields in " + one, fields <= 20);
      for (Method method : one.getDeclaredMethods()) {
        Check.no("a public name: " + method.getName(), publicNames.contains(method.getName()));
        Check.yes("at most seven parameters", method.getParameterCount() <= 7);
      }
    }
  }
}
