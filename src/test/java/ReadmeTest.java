import java.lang.reflect.Method;
import java.nio.charset.StandardCharsets;
import java.nio.file.Files;
import java.nio.file.Path;
import java.util.regex.Matcher;
import java.util.regex.Pattern;

/** README.md: its text has no fault, and its calls answer what stands behind them. */
public final class ReadmeTest {
  private static final Pattern CALL = Pattern.compile("(?m)^gate\\.(\\w+)\\(([^)]*)\\); +// (-?\\d+) ");

  public static void main(String[] args) throws Exception {
    String readme = Files.readString(Path.of("README.md"), StandardCharsets.UTF_8);
    String text = block(readme, "text");
    OneGate gate = new OneGate();
    Due.due("lines of the text", Due.tell(gate, text), Long.parseLong(after(readme, "answers how many lines there are, here ")));
    Matcher calls = CALL.matcher(readme);
    while (calls.find()) {
      String call = calls.group(1) + "(" + calls.group(2) + ")";
      Due.due(call, answer(gate, calls.group(1), calls.group(2).split(", ")), Long.parseLong(calls.group(3)));
    }
    Due.due("lines of calls are all read", CALL.matcher(readme).results().count(), readme.split("\ngate\\.").length - 1);
    Due.end();
  }

  private static String block(String readme, String kind) {
    int begin = readme.indexOf("```" + kind + "\n") + kind.length() + 4;
    return readme.substring(begin, readme.indexOf("```", begin));
  }

  private static String after(String readme, String words) {
    int begin = readme.indexOf(words) + words.length();
    return readme.substring(begin, readme.indexOf(',', begin));
  }

  private static long answer(OneGate gate, String name, String[] told) throws Exception {
    for (Method m : OneGate.class.getMethods()) {
      if (!m.getName().equals(name)) continue;
      Class<?>[] types = m.getParameterTypes();
      Object[] row = new Object[types.length];
      for (int i = 0; i < row.length; i++) {
        row[i] = types[i] == boolean.class ? (Object) Boolean.valueOf(told[i])
            : types[i] == long.class ? (Object) Long.valueOf(told[i]) : (Object) Integer.valueOf(told[i]);
      }
      return ((Number) m.invoke(gate, row)).longValue();
    }
    throw new IllegalStateException("no such call: " + name);
  }
}
