import java.lang.reflect.Constructor;
import java.lang.reflect.Field;
import java.lang.reflect.Method;
import java.lang.reflect.Modifier;
import java.nio.charset.StandardCharsets;
import java.nio.file.Files;
import java.nio.file.Path;
import java.util.Arrays;
import java.util.HashSet;
import java.util.Set;
import java.util.TreeSet;
import java.util.regex.Pattern;

/** The public face, and the rules for the file that can be seen from outside. */
public final class FaceTest {
  private static final String[] FACE = {
    "int feed(int, int, int, int, int)", "int roads(int)", "int fault(int)", "int town(int, int)", "int road(int, int)",
    "int caravan(int, int)", "int dues(int, int, boolean)", "int eats(int, int)", "int open(int, int)", "int seed(int)",
    "int start(int, int, int)", "int send(int, int)", "int rate(int, int)", "int days(int, boolean)", "int undo(int)",
    "int judge(int, int)", "int perform(int)", "int year(int, int)", "int ways(int, int)", "int reach(int, int)",
    "int best(int, int, int, int)", "int takes(int, int, int, int)", "int soonest(int, int, int)",
    "int safest(int, int, int)", "int needed(int, int)", "int leave(int, int, int)", "int income(int)", "int arrives()",
    "int bestRate(int)", "int tempted()", "int grasping()", "int lacks(int, int, int, int)",
    "int weigh(int, int, int, int)", "int worst(int, int, int)", "int numbers(int, int, int)",
    "long write(int, int, long)", "int lists(int, int, int, int)", "int image(int)", "int restore(int)", "int count(int)",
  };

  public static void main(String[] args) throws Exception {
    face();
    nothingElseIsSeen();
    words(Files.readString(Path.of("src/main/java/OneGate.java"), StandardCharsets.US_ASCII));
    anyArguments();
    room();
    Due.end();
  }

  private static void face() {
    Set<String> seen = new TreeSet<>();
    for (Method m : OneGate.class.getDeclaredMethods()) {
      if (!Modifier.isPublic(m.getModifiers())) continue;
      String types = Arrays.toString(Arrays.stream(m.getParameterTypes()).map(Class::getName).toArray());
      seen.add(m.getReturnType().getName() + " " + m.getName() + "(" + types.substring(1, types.length() - 1) + ")");
      Due.due(m.getName() + " is of an object", Modifier.isStatic(m.getModifiers()) ? 1 : 0, 0);
    }
    for (String call : FACE) Due.due("face has " + call, seen.contains(call) ? 1 : 0, 1);
    Due.due("calls", seen.size(), FACE.length);
    Due.due("public and final", OneGate.class.getModifiers() & (Modifier.PUBLIC | Modifier.FINAL), Modifier.PUBLIC | Modifier.FINAL);
    Constructor<?>[] made = OneGate.class.getDeclaredConstructors();
    Due.due("one constructor", made.length, 1);
    Due.due("of nothing, public", made[0].getParameterCount() == 0 && Modifier.isPublic(made[0].getModifiers()) ? 1 : 0, 1);
  }

  private static void nothingElseIsSeen() {
    Set<String> faces = new HashSet<>();
    for (Method m : OneGate.class.getDeclaredMethods()) if (Modifier.isPublic(m.getModifiers())) faces.add(m.getName());
    for (Method m : OneGate.class.getDeclaredMethods()) {
      if (Modifier.isPublic(m.getModifiers())) continue;
      Due.due(m.getName() + " is private", Modifier.isPrivate(m.getModifiers()) ? 1 : 0, 1);
      Due.due(m.getName() + " bears no public name", faces.contains(m.getName()) ? 1 : 0, 0);
    }
    for (Field f : OneGate.class.getDeclaredFields()) {
      boolean none = f.getName().equals("NONE");
      Due.due(f.getName() + " is private", Modifier.isPrivate(f.getModifiers()) == !none ? 1 : 0, 1);
    }
    Class<?>[] inside = OneGate.class.getDeclaredClasses();
    Due.due("classes", inside.length <= 12 ? 1 : 0, 1);
    for (Class<?> c : inside) {
      Due.due(c.getName() + " is static", Modifier.isStatic(c.getModifiers()) ? 1 : 0, 1);
      int fields = 0;
      for (Field f : c.getDeclaredFields()) {
        if (!Modifier.isStatic(f.getModifiers())) fields++;
        else Due.due(f.getName() + " is final", Modifier.isFinal(f.getModifiers()) ? 1 : 0, 1);
      }
      Due.due(c.getName() + " has few fields", fields <= 20 ? 1 : 0, 1);
      for (Method m : c.getDeclaredMethods()) {
        Due.due(m.getName() + " takes few", m.getParameterCount() <= 7 ? 1 : 0, 1);
        Due.due(m.getName() + " bears no public name", faces.contains(m.getName()) ? 1 : 0, 0);
      }
    }
  }

  private static void words(String source) {
    String bare = source.replaceAll("(?s)/\\*.*?\\*/", "").replaceAll("//[^\\n]*", "");
    String[] none = {"throw", "try", "catch", "finally", "synchronized", "assert", "package", "native", "volatile",
        "transient", "Object", "equals", "hashCode", "Exact", "double", "float"};
    for (String word : none) {
      Due.due("no " + word, Pattern.compile("\\b" + word + "\\b").matcher(bare).find() ? 1 : 0, 0);
    }
    Due.due("no lambda", bare.contains("->") ? 1 : 0, 0);
    Due.due("no method reference", bare.contains("::") ? 1 : 0, 0);
    Due.due("one import", bare.split("\\bimport\\b").length, 2);
    Due.due("no other library", Pattern.compile("\\bjava\\.(?!util\\.Arrays;)").matcher(bare).find() ? 1 : 0, 0);
  }

  /** No call throws, whatever it is given, on a new object and on one with much in it. */
  private static void anyArguments() throws Exception {
    int[] odd = {Integer.MIN_VALUE, -1000, -1, 0, 1, 2, 3, 5, 6, 9, 10, 14, 15, 40, 99, 100, 900, 999, 1000, Integer.MAX_VALUE};
    String much = "towns 6;road 0 to 1 days 1;road 1 to 2 days 1;road 2 to 3 days 1;road 3 to 4 days 1;road 4 to 5 days 1;"
        + "road 5 to 0 days 1 risk 3;caravan at 0 to 5 load 100;caravan at 3 to 2 load 999;day 999;";
    OneGate[] gates = {new OneGate(), Due.told(much)};
    for (OneGate gate : gates) {
      for (Method m : OneGate.class.getDeclaredMethods()) {
        if (!Modifier.isPublic(m.getModifiers())) continue;
        for (int i = 0; i < 600; i++) m.invoke(gate, arguments(m.getParameterTypes(), odd, i));
      }
    }
    Due.due("nothing was thrown", 0, 0);
  }

  private static Object[] arguments(Class<?>[] types, int[] odd, int turn) {
    Object[] row = new Object[types.length];
    int n = turn * 7919 + 13;
    for (int k = 0; k < row.length; k++) {
      n = n * 1103515245 + 12345;
      int v = odd[(n >>> 16) % odd.length];
      row[k] = types[k] == boolean.class ? (Object) (v > 0) : types[k] == long.class ? (Object) (long) v : (Object) v;
    }
    return row;
  }

  /** 512 calls with the dearest texts that can be fed between them stay far below the room that a run has. */
  private static void room() {
    com.sun.management.ThreadMXBean threads =
        (com.sun.management.ThreadMXBean) java.lang.management.ManagementFactory.getThreadMXBean();
    long self = Thread.currentThread().getId();
    byte[] laws = "towns 2;eats:1;eats:1;eats:1;eats:1;eats:1;eats:1;".getBytes(StandardCharsets.US_ASCII);
    long before = threads.getThreadAllocatedBytes(self);
    OneGate gate = new OneGate();
    for (int call = 0; call < 512; call += 4) {
      Due.feed(gate, laws);
      gate.roads(50);
    }
    long used = threads.getThreadAllocatedBytes(self) - before;
    Due.due("bytes used: " + used, used < 2_000_000 ? 1 : 0, 1);
  }
}
