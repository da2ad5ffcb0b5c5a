import java.lang.reflect.InvocationTargetException;
import java.lang.reflect.Method;
import java.util.TreeMap;

/** Runs the tests of a class: its static methods named promiseNN_ and what is tried. */
final class Cases {
  private Cases() {}

  /** Fails too if one asks nothing, or if there is none for one of these promises. */
  static void run(Class<?> tests, int firstPromise, int lastPromise) {
    TreeMap<String, Method> byName = new TreeMap<>();
    int[] of = new int[lastPromise + 1];
    for (Method m : tests.getDeclaredMethods()) {
      if (!m.getName().matches("promise\\d\\d_\\w+")) continue;
      int promise = Integer.parseInt(m.getName().substring(7, 9));
      Due.due(m.getName() + " is of these promises", promise >= firstPromise && promise <= lastPromise ? 1 : 0, 1);
      if (promise <= lastPromise) of[promise]++;
      byName.put(m.getName(), m);
    }
    for (Method m : byName.values()) runOne(m);
    Due.begin(tests.getName());
    for (int p = firstPromise; p <= lastPromise; p++) Due.due("tests of promise " + p, of[p] > 0 ? 1 : 0, 1);
    System.out.println(byName.size() + " tests of promises " + firstPromise + " to " + lastPromise);
    Due.end();
  }

  private static void runOne(Method test) {
    Due.begin(test.getName());
    int before = Due.asked();
    try {
      test.setAccessible(true);
      test.invoke(null);
    } catch (InvocationTargetException thrown) {
      thrown.getCause().printStackTrace(System.out);
      Due.due("exceptions", 1, 0);
    } catch (IllegalAccessException refused) {
      Due.due("calls of the test itself", 0, 1);
    }
    Due.due("asks something", Due.asked() > before ? 1 : 0, 1);
  }
}
