/** Promises 33 to 35: by which gate a load was short, where to weigh, what arrives at worst. */
public final class ShortTest {
  public static void main(String[] args) {
    promise33();
    promise34();
    promise35();
    smallLoads();
    fiveGates();
    codes();
    Due.end();
  }

  /** Loads of 100 behind the gates of 1 2 3 4, as by the laws: 97 95 93 91. Short by one of them, in their order:
   * 88 86 84 82, 97 86 84 82, 97 95 84 82, 97 95 93 82. */
  private static final String ROW = "towns 6;road 0 to 1 days 1;road 1 to 2 days 1;road 2 to 3 days 1;road 3 to 4 days 1;"
      + "rate 2 at 1;eats : 1;";

  private static void seen(OneGate gate, int towns, int place, long... weighed) {
    for (int sort = 0; sort < 4; sort++) {
      Due.write(gate, 2, sort, weighed);
      Due.due("lacks", gate.lacks(2, 0, 4, 100), towns);
      Due.due("weigh", gate.weigh(2, 0, 4, 100), place);
    }
  }

  private static void promise33() {
    OneGate gate = Due.told(ROW);
    seen(gate, 2, 0, 88, 86, 84, 82);
    seen(gate, 4, 0, 97, 86, 84, 82);
    seen(gate, 8, 0, 97, 95, 84, 82);
    seen(gate, 16, 0, 97, 95, 93, 82);
    seen(gate, 0, -1, 97, 95, 93, 91);
    seen(gate, 0, -1, 97, 95, 93, 83);
    seen(gate, 0, -1, 88, 95, -1, -1);
    seen(gate, 0, -1, -2, -1, -1, -1);
    seen(gate, 2, 0, 88, -1, -1, -1);
    seen(gate, 2 + 4, 0, -1, 86, -1, -1);
    seen(gate, 4 + 8 + 16, 1, 97, -1, -1, -1);
    seen(gate, 16, 0, -1, -1, 93, -1);
    Due.write(gate, 0, 3, 97 + (1L << 32), -1, -1, -1);
    Due.due("64 bits are looked at", gate.lacks(0, 0, 4, 100), 0);
    Due.write(gate, 0, 3, (1L << 32) - 1, -1, -1, -1);
    Due.due("that is not NONE", gate.lacks(0, 0, 4, 100), 0);
    Due.due("nothing changes", gate.count(6), 0);
  }

  private static void promise34() {
    OneGate gate = Due.told(ROW);
    // Behind 0: 88 and three of 97; behind 1: two of 86, two of 95; behind 2: three of 84; behind 3: all alike.
    seen(gate, 30, 1, -1, -1, -1, -1);
    seen(gate, 30, 1, -1, -1, -1, 82);
    seen(gate, 2 + 4 + 8, 0, -1, -1, 84, -1);
    seen(gate, 8 + 16, 2, -1, 95, -1, -1);
  }

  private static void promise35() {
    OneGate gate = Due.told(ROW);
    Due.due("82 by each", gate.worst(0, 4, 100), 82);
    Due.due("no roads", gate.worst(2, 2, 100), -1);
    Due.due("no way", gate.worst(4, 0, 100), -5);
    Due.due("no way", gate.worst(0, 5, 100), -5);
    Due.due("load", gate.worst(4, 0, 0), -3);
    Due.due("load", gate.worst(0, 4, 1000), -3);
    Due.due("from", gate.worst(6, 0, 0), -2);
    Due.due("to", gate.worst(0, -1, 100), -2);
    OneGate far = Due.told("towns 3;road 0 to 1 days 1;road 1 to 2 days 1;dues : (2 - town) * (load - 50);");
    // 50 behind the first gate; short there: 45, and the second takes nothing: 45; short at the second: 45.
    Due.due("alike", far.worst(0, 2, 100), 45);
    OneGate dear = Due.told("towns 3;road 0 to 1 days 1;road 1 to 2 days 1;dues : (town - 1) * 50;");
    // Short at the first: 90, then 40; short at the second: 50, then 45.
    Due.due("the least", dear.worst(0, 2, 100), 40);
  }

  private static void smallLoads() {
    OneGate gate = Due.told(ROW);
    Due.write(gate, 0, 1, 6, 4, 2, 0);
    Due.due("a tenth, cut, is nothing", gate.lacks(0, 0, 4, 9), 30);
    Due.due("all alike", gate.weigh(0, 0, 4, 9), 0);
    Due.due("nothing arrives", gate.worst(0, 4, 9), 0);
    Due.write(gate, 0, 0);
    Due.due("no roads", gate.lacks(0, 3, 3, 9), 0);
    Due.due("no roads", gate.weigh(0, 3, 3, 9), -1);
  }

  /** As many gates as can be: 198 197 196 195 194 by the laws. */
  private static void fiveGates() {
    OneGate gate = Due.told("towns 6;road 0 to 1 days 1;road 1 to 2 days 1;road 2 to 3 days 1;road 3 to 4 days 1;road 4 to 5 days 1;");
    Due.due("best", gate.best(0, 5, 199, 0), 194);
    Due.due("takes", gate.takes(0, 5, 199, 5), 1);
    Due.write(gate, 0, 1, -1, -1, -1, -1, 175);
    // Short by the first: 179 178 177 176 175, by the last: 194 - 19.
    Due.due("each of them", gate.lacks(0, 0, 5, 199), 62);
    Due.due("in the midst", gate.weigh(0, 0, 5, 199), 1);
    Due.write(gate, 0, 1, 198, 197, 196, 195, -1);
    Due.due("the last", gate.lacks(0, 0, 5, 199), 32);
    Due.due("worst", gate.worst(0, 5, 199), 175);
    Due.due("listed", gate.lists(0, 0, 5, 199), 5);
    Due.due("none was short", gate.lacks(0, 0, 5, 199), 0);
  }

  private static void codes() {
    OneGate gate = Due.told(ROW);
    for (int way = 0; way < 2; way++) {
      boolean lacks = way == 0;
      Due.due("tray", ask(gate, lacks, 4, 0, 4, 0), -2);
      Due.due("tray", ask(gate, lacks, -1, 0, 4, 100), -2);
      Due.due("from", ask(gate, lacks, 1, 6, 4, 0), -2);
      Due.due("to", ask(gate, lacks, 1, 0, -1, 100), -2);
      Due.due("missing", ask(gate, lacks, 1, 4, 0, 0), -6);
    }
    Due.write(gate, 1, 1, 1, 2, 3);
    for (int way = 0; way < 2; way++) {
      boolean lacks = way == 0;
      Due.due("load", ask(gate, lacks, 1, 4, 0, 0), -3);
      Due.due("load", ask(gate, lacks, 1, 0, 4, 1000), -3);
      Due.due("no way", ask(gate, lacks, 1, 4, 0, 100), -5);
      Due.due("too few", ask(gate, lacks, 1, 0, 4, 100), -4);
      Due.due("too many", ask(gate, lacks, 1, 0, 2, 100), -4);
      Due.due("no roads", ask(gate, lacks, 1, 0, 0, 100), -4);
      Due.due("as many", ask(gate, lacks, 1, 1, 4, 100), lacks ? 0 : -1);
    }
  }

  private static int ask(OneGate gate, boolean lacks, int tray, int from, int to, int load) {
    return lacks ? gate.lacks(tray, from, to, load) : gate.weigh(tray, from, to, load);
  }
}
