/** Promises 33 to 35 at their bounds: a test for each case that the document names. */
public final class ShortEdgesTest {
  private static final int MIN = Integer.MIN_VALUE;
  private static final int MAX = Integer.MAX_VALUE;
  private static final int[] NO_TOWNS = {-1, 4, 6, MIN, MAX};
  private static final int[] NO_TRAYS = {-1, 4, MIN, MAX};
  private static final int[] NO_LOADS = {0, -1, 1000, MIN, MAX};
  /** Behind the gates of 1 2 3 a load of 100 is 99 98 97; short by one of them 90 89 88, 99 89 88, 99 98 88. */
  private static final String ROW = "towns 4;road 0 to 1 days 1;road 1 to 2 days 1;road 2 to 3 days 1;";
  /** As many gates as can be. */
  private static final String FIVE = "towns 6;road 0 to 1 days 1;road 1 to 2 days 1;road 2 to 3 days 1;"
      + "road 3 to 4 days 1;road 4 to 5 days 1;";

  public static void main(String[] args) {
    Cases.run(ShortEdgesTest.class, 33, 35);
  }

  private static void seen(int towns, int place, int sort, long... weighed) {
    OneGate gate = Due.told(ROW);
    Due.write(gate, 0, sort, weighed);
    Due.due("lacks", gate.lacks(0, 0, 3, 100), towns);
    Due.due("weigh", gate.weigh(0, 0, 3, 100), place);
  }

  // ---- lacks

  static void promise33_noSuchTray() {
    for (int tray : NO_TRAYS) Rich.leavesAll(-2, gate -> gate.lacks(tray, 0, 1, 5));
  }

  static void promise33_noSuchTown() {
    for (int t : NO_TOWNS) {
      Rich.leavesAll(-2, gate -> gate.lacks(2, t, 1, 5));
      Rich.leavesAll(-2, gate -> gate.lacks(2, 0, t, 5));
    }
  }

  static void promise33_aMissingTray() {
    Rich.leavesAll(-6, gate -> gate.lacks(3, 0, 1, 5));
  }

  static void promise33_noSuchLoad() {
    for (int load : NO_LOADS) Rich.leavesAll(-3, gate -> gate.lacks(2, 0, 1, load));
  }

  static void promise33_noWay() {
    Rich.leavesAll(-5, gate -> gate.lacks(2, 0, 3, 5));
  }

  static void promise33_notAsManyNumbersAsRoads() {
    // From 0 to 1 is one road, to 2 are two; tray 2 has three numbers, tray 0 none.
    Rich.leavesAll(-4, gate -> gate.lacks(2, 0, 1, 5));
    Rich.leavesAll(-4, gate -> gate.lacks(2, 0, 2, 5));
    Rich.leavesAll(-4, gate -> gate.lacks(0, 0, 1, 5));
    Rich.leavesAll(-4, gate -> gate.lacks(2, 0, 0, 5));
  }

  static void promise33_ofSeveralTheFirstTold() {
    Rich.leavesAll(-2, gate -> gate.lacks(3, 0, 4, 0));
    Rich.leavesAll(-6, gate -> gate.lacks(3, 0, 3, 0));
    Rich.leavesAll(-3, gate -> gate.lacks(2, 0, 3, 0));
    Rich.leavesAll(-5, gate -> gate.lacks(0, 0, 3, 5));
  }

  static void promise33_toItself() {
    Rich.leavesAll(0, gate -> gate.lacks(0, 3, 3, 5));
  }

  static void promise33_noneWeighed() {
    seen(14, 0, 0, -1, -1, -1);
  }

  static void promise33_allWeighed() {
    seen(2, 0, 0, 90, 89, 88);
    seen(4, 0, 0, 99, 89, 88);
    seen(8, 0, 0, 99, 98, 88);
  }

  static void promise33_noneKept() {
    seen(0, -1, 0, 99, 98, 97);
  }

  static void promise33_byOneOff() {
    seen(0, -1, 1, 91, -1, -1);
    seen(0, -1, 1, -1, -1, 87);
    seen(0, -1, 1, -1, -1, 89);
  }

  static void promise33_someWeighed() {
    seen(2, 0, 1, 90, -1, -1);
    seen(2 + 4, 0, 1, -1, 89, -1);
    seen(2 + 4 + 8, 0, 1, -1, -1, 88);
    seen(4 + 8, 1, 1, 99, -1, -1);
  }

  static void promise33_otherNumbersBelowZeroAreWeighed() {
    seen(0, -1, 1, -2, -1, -1);
    seen(0, -1, 2, MIN, -1, -1);
  }

  static void promise33_numbersOf64BitsAreWhole() {
    seen(0, -1, 3, 90 + (1L << 32), -1, -1);
    seen(0, -1, 3, (1L << 32) - 1, -1, -1);
    seen(14, 0, 3, -1, -1, -1);
  }

  static void promise33_inEightBitsNoGreatLoads() {
    OneGate gate = Due.told(ROW);
    Due.write(gate, 0, 0, 299, -1, -1);
    Due.due("299 is 43 there", gate.lacks(0, 0, 3, 300), 0);
    Due.write(gate, 0, 1, 299, -1, -1);
    Due.due("in 16 bits", gate.lacks(0, 0, 3, 300), 4 + 8);
  }

  static void promise33_aTenthCutToNothing() {
    OneGate gate = Due.told(ROW);
    // Of 12: 11, 10, 9 by the laws; a tenth of 11 and of 10 is 1, of 9 nothing.
    Due.write(gate, 0, 1, 11, 10, 9);
    Due.due("the last may have kept nothing", gate.lacks(0, 0, 3, 12), 8);
    Due.write(gate, 0, 1, 11, 9, 8);
    Due.due("the second kept 1", gate.lacks(0, 0, 3, 12), 4);
    // Of 10: 9, 8, 7: nobody kept any.
    Due.write(gate, 0, 1, 9, 8, 7);
    Due.due("each may have kept nothing", gate.lacks(0, 0, 3, 10), 14);
    Due.due("all alike everywhere", gate.weigh(0, 0, 3, 10), 0);
  }

  static void promise33_nothingLeft() {
    OneGate gate = Due.told(ROW + "dues : load;");
    Due.write(gate, 0, 1, 0, 0, 0);
    Due.due("each", gate.lacks(0, 0, 3, 999), 14);
  }

  static void promise33_allBehindAsByTheLaws() {
    OneGate gate = Due.told(ROW + "dues : load - 50;");
    // By the laws 50 each; short by the first 45: the gates behind take nothing of it.
    Due.write(gate, 0, 1, 45, 45, 45);
    Due.due("the first", gate.lacks(0, 0, 3, 999), 2);
    Due.write(gate, 0, 1, 50, -1, 45);
    Due.due("the second or third", gate.lacks(0, 0, 3, 999), 4 + 8);
  }

  static void promise33_eatenAlong() {
    OneGate gate = Due.told(ROW + "eats : 4;");
    // By the laws 95 90 85; short by the second 95 81 76.
    Due.write(gate, 0, 1, 95, 81, 76);
    Due.due("the second", gate.lacks(0, 0, 3, 100), 4);
    Due.write(gate, 0, 1, 95, 90, 85);
    Due.due("none", gate.lacks(0, 0, 3, 100), 0);
  }

  static void promise33_fiveGates() {
    OneGate gate = Due.told(FIVE);
    Due.write(gate, 3, 2, -1, -1, -1, -1, -1);
    Due.due("each", gate.lacks(3, 0, 5, 999), 62);
    Due.write(gate, 3, 2, -1, -1, -1, -1, 994 - 99);
    Due.due("each that leaves 895", gate.lacks(3, 0, 5, 999), 62);
    Due.write(gate, 3, 2, 998, 997, 996, 995, 895);
    Due.due("the last", gate.lacks(3, 0, 5, 999), 32);
  }

  // ---- weigh

  static void promise34_noSuchTray() {
    for (int tray : NO_TRAYS) Rich.leavesAll(-2, gate -> gate.weigh(tray, 0, 1, 5));
  }

  static void promise34_noSuchTown() {
    for (int t : NO_TOWNS) {
      Rich.leavesAll(-2, gate -> gate.weigh(2, t, 1, 5));
      Rich.leavesAll(-2, gate -> gate.weigh(2, 0, t, 5));
    }
  }

  static void promise34_aMissingTray() {
    Rich.leavesAll(-6, gate -> gate.weigh(3, 0, 1, 5));
  }

  static void promise34_noSuchLoad() {
    for (int load : NO_LOADS) Rich.leavesAll(-3, gate -> gate.weigh(2, 0, 1, load));
  }

  static void promise34_noWay() {
    Rich.leavesAll(-5, gate -> gate.weigh(2, 0, 3, 5));
  }

  static void promise34_notAsManyNumbersAsRoads() {
    Rich.leavesAll(-4, gate -> gate.weigh(2, 0, 1, 5));
    Rich.leavesAll(-4, gate -> gate.weigh(0, 0, 1, 5));
    Rich.leavesAll(-4, gate -> gate.weigh(2, 0, 0, 5));
  }

  static void promise34_ofSeveralTheFirstTold() {
    Rich.leavesAll(-2, gate -> gate.weigh(3, 0, 4, 0));
    Rich.leavesAll(-6, gate -> gate.weigh(3, 0, 3, 0));
    Rich.leavesAll(-3, gate -> gate.weigh(2, 0, 3, 0));
    Rich.leavesAll(-5, gate -> gate.weigh(0, 0, 3, 5));
  }

  static void promise34_toItselfNone() {
    Rich.leavesAll(-1, gate -> gate.weigh(0, 3, 3, 5));
  }

  static void promise34_thereAreNone() {
    seen(0, -1, 1, 99, 98, 97);
  }

  static void promise34_oneAlone() {
    // It is alike with itself alone behind each gate: the first.
    seen(8, 0, 1, 99, 98, 88);
  }

  static void promise34_ofEqualsTheFirst() {
    // Behind the first gate two are alike (99), behind the second two (89), behind the third all three.
    seen(14, 0, 1, -1, -1, -1);
  }

  static void promise34_aLaterGate() {
    OneGate gate = Due.told(FIVE);
    // Of five behind the first gate four are alike, behind the second three, behind the third three.
    Due.write(gate, 0, 1, -1, -1, -1, -1, -1);
    Due.due("the second", gate.weigh(0, 0, 5, 199), 1);
    Due.write(gate, 0, 1, 198, 197, 196, -1, -1);
    Due.due("of 4 and 5 the fourth", gate.weigh(0, 0, 5, 199), 3);
  }

  static void promise34_theLastGate() {
    OneGate gate = Due.told(ROW + "dues : (town - 1) * (3 - town) * (load - 50) + (town - 1) * (town - 2) * 10;");
    // Short by one of them in their order: 90 50 30, 100 45 25, 100 50 27.
    Due.write(gate, 0, 1, -1, -1, -1);
    Due.due("each", gate.lacks(0, 0, 3, 100), 14);
    Due.due("there they all differ", gate.weigh(0, 0, 3, 100), 2);
  }

  static void promise34_allAlikeEverywhere() {
    OneGate gate = Due.told(ROW + "dues : load - 9;");
    Due.write(gate, 0, 1, -1, -1, -1);
    Due.due("the first", gate.weigh(0, 0, 3, 100), 0);
  }

  // ---- worst

  static void promise35_noSuchTown() {
    for (int t : NO_TOWNS) {
      Rich.leavesAll(-2, gate -> gate.worst(t, 1, 5));
      Rich.leavesAll(-2, gate -> gate.worst(0, t, 5));
    }
  }

  static void promise35_noSuchLoad() {
    for (int load : NO_LOADS) Rich.leavesAll(-3, gate -> gate.worst(0, 1, load));
  }

  static void promise35_noWay() {
    Rich.leavesAll(-5, gate -> gate.worst(0, 3, 5));
  }

  static void promise35_ofSeveralTheFirstTold() {
    Rich.leavesAll(-2, gate -> gate.worst(0, 4, 0));
    Rich.leavesAll(-3, gate -> gate.worst(0, 3, 0));
  }

  static void promise35_noRoads() {
    Rich.leavesAll(-1, gate -> gate.worst(3, 3, 5));
    Due.due("on a new object", new OneGate().worst(0, 0, 999), -1);
  }

  static void promise35_nothingArrives() {
    Due.due("0", Due.told(ROW + "dues : load;").worst(0, 3, 999), 0);
    Due.due("of 1", Due.told(ROW).worst(0, 3, 1), 0);
  }

  static void promise35_aTenthCutToNothing() {
    Due.due("of 10", Due.told(ROW).worst(0, 3, 10), 7);
    Due.due("of 11", Due.told(ROW).worst(0, 3, 11), 7);
    Due.due("of 12", Due.told(ROW).worst(0, 3, 12), 8);
  }

  static void promise35_theLeastOfThem() {
    Due.due("by the first", Due.told(ROW + "dues : (town - 1) * 40;").worst(0, 3, 200), 200 - 20 - 40 - 80);
    Due.due("by the last", Due.told(ROW + "dues : load - 100;").worst(0, 3, 200), 90);
    Due.due("of one gate", Due.told(ROW).worst(0, 1, 100), 90);
  }

  static void promise35_eatenAlong() {
    Due.due("100 95, 86, 81, 76", Due.told(ROW + "eats : 4;").worst(0, 3, 100), 76);
  }

  static void promise35_fiveGates() {
    Due.due("of 999", Due.told(FIVE).worst(0, 5, 999), 895);
  }
}
