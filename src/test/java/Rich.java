import java.nio.charset.StandardCharsets;
import java.util.function.Supplier;
import java.util.function.ToLongFunction;

/** An object with something of everything in it, and calls that must leave it all as it is. */
final class Rich {
  /** Road 2 is shut in month 0; no road leads to town 3. */
  static final String TEXT = "towns 4;road 0 to 1 days 2 risk 5;road 1 to 2 days 3 sea;road 0 to 2 days 1;"
      + "road 2 to 0 days 4;road 1 to 0 days 9;caravan at 0 to 2 load 100;caravan at 1 to 3 load 50;"
      + "caravan at 0 to 1 load 30;caravan at 0 to 2 load 20;rate 3 at 1;dues : rate + month;eats : sea + 1;"
      + "opens : not road = 2 or month > 0;day 27;";

  private Rich() {}

  /**
   * Day 29; caravans 0 and 1 are in town 1, 2 is on road 0, 3 is in town 0. Five calls can be undone; image 0 is made,
   * image 1 is not; tray 0 is empty, 1 has deeds, 2 has three numbers of 64 bits, 3 is missing; the latest text had a
   * fault of kind 2 at place 6; a text of twenty bytes is on the tape.
   */
  static OneGate gate() {
    OneGate gate = Due.told(TEXT);
    gate.seed(77);
    gate.send(0, 0);
    gate.days(2, true);
    gate.rate(2, 6);
    gate.image(0);
    gate.send(2, 0);
    Due.tell(gate, "towns ;");
    Due.feed(gate, "towns 3;day 123;".getBytes(StandardCharsets.US_ASCII));
    gate.numbers(0, 0, 0);
    gate.numbers(1, 1, 3);
    gate.write(1, 0, 200);
    gate.write(1, 1, 119);
    gate.write(1, 2, 0);
    gate.numbers(2, 3, 3);
    gate.write(2, 0, -1);
    gate.write(2, 1, 1L << 40);
    return gate;
  }

  /** What a call answers, and that it leaves all as it was: two objects are alike, one of which was asked. */
  static void leavesAll(long answer, ToLongFunction<OneGate> call) {
    leavesAll(answer, call, Rich::gate);
  }

  static void leavesAll(long answer, ToLongFunction<OneGate> call, Supplier<OneGate> made) {
    OneGate asked = made.get();
    Due.due("the call", call.applyAsLong(asked), answer);
    sameAs("what can be seen behind it", asked, made.get());
  }

  /** Compares all that can be seen of two objects, which are spent by that. */
  static void sameAs(String told, OneGate one, OneGate other) {
    String seen = all(one);
    String due = all(other);
    Due.due(told, seen.equals(due) ? 1 : 0, 1);
    if (!seen.equals(due)) System.out.println("  seen " + seen + "\n  due  " + due);
  }

  /** Now, each step back, both images, the text on the tape, and the trays: some 480 calls. */
  private static String all(OneGate gate) {
    StringBuilder seen = new StringBuilder();
    roadsAndLaws(gate, seen);
    state(gate, seen);
    for (int tray = 0; tray < 4; tray++) for (int what = 0; what < 4; what++) put(seen, gate.judge(tray, what));
    for (int i = 0; i < 10 && gate.count(9) > 0; i++) {
      put(seen, gate.undo(1));
      state(gate, seen);
    }
    for (int image = 0; image < 2; image++) {
      put(seen, gate.restore(image));
      state(gate, seen);
    }
    put(seen, gate.roads(gate.count(10)));
    roadsAndLaws(gate, seen);
    state(gate, seen);
    for (int tray = 0; tray < 4; tray++) {
      for (int i = 0; i < 4; i++) put(seen, gate.write(tray, i, 0x0123456789abcdefL));
      put(seen, gate.write(tray, 39, 5));
    }
    return seen.toString();
  }

  private static void roadsAndLaws(OneGate gate, StringBuilder seen) {
    for (int what : new int[] {0, 1, 10, 11}) put(seen, gate.count(what));
    for (int what = 0; what < 2; what++) put(seen, gate.fault(what));
    for (int r = 0; r < gate.count(1); r++) for (int what = 0; what < 5; what++) put(seen, gate.road(r, what));
    put(seen, gate.dues(1, 99, false));
    put(seen, gate.eats(1, 99));
    put(seen, gate.open(2, 0));
    put(seen, gate.open(2, 30));
  }

  private static void state(OneGate gate, StringBuilder seen) {
    for (int what = 2; what < 10; what++) put(seen, gate.count(what));
    for (int t = 0; t < 4; t++) for (int what = 0; what < 2; what++) put(seen, gate.town(t, what));
    for (int c = 0; c < gate.count(2); c++) {
      for (int what : new int[] {0, 1, 2, 4}) put(seen, gate.caravan(c, what));
    }
    put(seen, gate.best(0, 2, 99, 0));
    put(seen, gate.arrives());
    // x can be seen only by telling another one, which is a deed.
    put(seen, gate.seed(1));
    gate.undo(1);
  }

  private static void put(StringBuilder seen, long answer) {
    seen.append(answer).append(' ');
  }
}
