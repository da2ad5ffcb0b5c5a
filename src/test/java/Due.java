import java.nio.charset.StandardCharsets;

/** What the tests share: answers that are due, texts told to an object, and the count of both. */
final class Due {
  private static int passed = 0;
  private static int failed = 0;
  private static String test = "";

  private Due() {}

  /** The test to which the answers belong that are asked from now on. */
  static void begin(String name) {
    test = name + ": ";
  }

  static void due(String call, long got, long want) {
    if (got == want) {
      passed++;
      return;
    }
    failed++;
    System.out.println(test + call + " answered " + got + ", due is " + want);
  }

  static int asked() {
    return passed + failed;
  }

  /** Prints the count and leaves with 1 if an answer was wrong, or if nothing was asked. */
  static void end() {
    System.out.println(passed + " answers as due, " + failed + " not");
    if (failed > 0 || passed == 0) System.exit(1);
  }

  static OneGate told(String text) {
    OneGate gate = new OneGate();
    int lines = tell(gate, text);
    if (lines < 1) due("roads() of " + text, lines, 1);
    return gate;
  }

  static int tell(OneGate gate, String text) {
    byte[] bytes = text.getBytes(StandardCharsets.ISO_8859_1);
    feed(gate, bytes);
    return gate.roads(bytes.length);
  }

  /** A text without a fault, of so many lines. */
  static void good(String text, int lines) {
    OneGate gate = new OneGate();
    due("roads: " + text, tell(gate, text), lines);
    due("fault(0): " + text, gate.fault(0), 0);
    due("fault(1): " + text, gate.fault(1), -1);
    due("count(11): " + text, gate.count(11), lines);
  }

  static void bad(String text, int kind, int place) {
    OneGate gate = new OneGate();
    due("roads: " + text, tell(gate, text), -30 - kind);
    due("fault(0): " + text, gate.fault(0), kind);
    due("fault(1): " + text, gate.fault(1), place);
    due("count(0): " + text, gate.count(0), 2);
    due("count(10): " + text, gate.count(10), 0);
    due("count(11): " + text, gate.count(11), 0);
  }

  /** A fault at the sign ^, which is left out of the text. */
  static void badAt(String marked, int kind) {
    bad(marked.replace("^", ""), kind, marked.indexOf('^'));
  }

  /** Feeds bytes, with blanks behind up to the next twenty. */
  static void feed(OneGate gate, byte[] bytes) {
    for (int i = 0; i < bytes.length; i += 20) {
      gate.feed(word(bytes, i), word(bytes, i + 4), word(bytes, i + 8), word(bytes, i + 12), word(bytes, i + 16));
    }
  }

  static int word(byte[] bytes, int i) {
    int word = 0;
    for (int k = i; k < i + 4; k++) word = word << 8 | (k < bytes.length ? bytes[k] & 255 : 32);
    return word;
  }

  static void write(OneGate gate, int tray, int sort, long... numbers) {
    due("numbers", gate.numbers(tray, sort, numbers.length), 0);
    for (int i = 0; i < numbers.length; i++) gate.write(tray, i, numbers[i]);
  }
}
