/** Promises 28 to 32 at their bounds: a test for each case that the document names. */
public final class RatesEdgesTest {
  private static final int MIN = Integer.MIN_VALUE;
  private static final int MAX = Integer.MAX_VALUE;
  private static final int[] NO_TOWNS = {-1, 4, 6, MIN, MAX};
  private static final String ROAD = "road 0 to 1 days 1;";
  private static final String CARAVAN = "caravan at 0 to 1 load 100;";
  /** By 1 or by 2 from 0 to 3; by 1 while it is not dearer. */
  private static final String FORK = "towns 4;road 0 to 1 days 1;road 1 to 3 days 1;road 0 to 2 days 1;"
      + "road 2 to 3 days 1;caravan at 0 to 3 load 100;";
  /** Six towns one behind the other, six caravans of the greatest load through all of them. */
  private static final String FULL = "towns 6;road 0 to 1 days 1;road 1 to 2 days 1;road 2 to 3 days 1;"
      + "road 3 to 4 days 1;road 4 to 5 days 1;" + "caravan at 0 to 5 load 999;".repeat(6);

  public static void main(String[] args) {
    Cases.run(RatesEdgesTest.class, 28, 32);
  }

  // ---- income

  static void promise28_noSuchTown() {
    for (int t : NO_TOWNS) Rich.leavesAll(-2, gate -> gate.income(t));
  }

  static void promise28_noCaravans() {
    Due.due("on a new object", new OneGate().income(0), 0);
    Due.due("with a road", Due.told("towns 2;" + ROAD).income(1), 0);
  }

  static void promise28_leavesAll() {
    // Caravan 3 would come to 1 and 2 (on days 30 and 33, in month 1), 0 from 1 to 2; 1 has no way, 2 is on a road.
    Rich.leavesAll(0, gate -> gate.income(0));
    Rich.leavesAll(4, gate -> gate.income(1));
    Rich.leavesAll(7 + 7, gate -> gate.income(2));
    Rich.leavesAll(0, gate -> gate.income(3));
  }

  static void promise28_notWhereTheyGo() {
    OneGate gate = Due.told("towns 2;" + ROAD + "road 1 to 0 days 1;caravan at 1 to 1 load 50;caravan at 0 to 0 load 50;");
    Due.due("town 0", gate.income(0), 0);
    Due.due("town 1", gate.income(1), 0);
  }

  static void promise28_notOnRoads() {
    OneGate gate = Due.told("towns 2;" + ROAD + CARAVAN);
    Due.due("ahead", gate.income(1), 1);
    gate.send(0, 0);
    Due.due("on a road", gate.income(1), 0);
    gate.days(1, false);
    Due.due("there", gate.income(1), 0);
  }

  static void promise28_whoHasNoneStays() {
    OneGate gate = Due.told("towns 3;" + ROAD + "caravan at 0 to 2 load 100;" + CARAVAN + "rate 4 at 1;");
    Due.due("of the other alone", gate.income(1), 4);
  }

  static void promise28_noWayToday() {
    OneGate gate = Due.told("towns 2;" + ROAD + CARAVAN + "opens : month = 1;day 29;");
    Due.due("day 29", gate.income(1), 0);
    gate.days(1, false);
    Due.due("day 30", gate.income(1), 1);
  }

  static void promise28_notWhereItBegins() {
    OneGate gate = Due.told("towns 2;" + ROAD + CARAVAN + "rate 9 at 0;");
    Due.due("the first town", gate.income(0), 0);
  }

  static void promise28_sixOfTheGreatestLoad() {
    OneGate gate = Due.told(FULL + "dues : (town - 4) * load;");
    Due.due("all", gate.income(5), 6 * 999);
    Due.due("none", gate.income(4), 0);
  }

  static void promise28_withNothingLeft() {
    OneGate gate = Due.told("towns 3;" + ROAD + "road 1 to 2 days 1;caravan at 0 to 2 load 5;dues : 5;");
    gate.send(0, 0);
    gate.days(1, false);
    Due.due("of nothing", gate.income(2), 0);
  }

  // ---- arrives

  static void promise29_noCaravans() {
    Due.due("on a new object", new OneGate().arrives(), 0);
  }

  static void promise29_leavesAll() {
    // Caravan 3: of 20 2 are eaten, 4 taken, 6 eaten by sea, 7 taken. Caravan 0 has 95: 6 are eaten, 7 taken.
    Rich.leavesAll(1 + 82, gate -> gate.arrives());
  }

  static void promise29_notWhereTheyGo() {
    OneGate gate = Due.told("towns 2;" + ROAD + "caravan at 1 to 1 load 50;" + CARAVAN);
    Due.due("the other's 99", gate.arrives(), 99);
  }

  static void promise29_notOnRoads() {
    OneGate gate = Due.told("towns 2;" + ROAD + CARAVAN.repeat(2));
    gate.send(0, 0);
    Due.due("the other's 99", gate.arrives(), 99);
  }

  static void promise29_ofWhoHasNoneNothing() {
    OneGate gate = Due.told("towns 3;" + ROAD + "caravan at 0 to 2 load 100;" + CARAVAN);
    Due.due("the other's 99", gate.arrives(), 99);
  }

  static void promise29_noWayForAny() {
    OneGate gate = Due.told("towns 2;" + CARAVAN.repeat(6));
    Due.due("nothing", gate.arrives(), 0);
  }

  static void promise29_throughTheFirstTown() {
    OneGate gate = Due.told("towns 3;road 1 to 0 days 1;road 0 to 2 days 1;caravan at 1 to 2 load 100;rate 9 at 0;");
    Due.due("its gate takes too", gate.arrives(), 90);
    Due.due("as much", gate.income(0), 9);
  }

  static void promise29_sixOfTheGreatestLoad() {
    Due.due("all", Due.told(FULL + "dues : 0;").arrives(), 6 * 999);
    Due.due("five gates", Due.told(FULL).arrives(), 6 * 994);
    Due.due("nothing", Due.told(FULL + "dues : load;").arrives(), 0);
  }

  // ---- bestRate

  static void promise30_noSuchTown() {
    for (int t : NO_TOWNS) Rich.leavesAll(-2, gate -> gate.bestRate(t));
  }

  static void promise30_noCaravansTheFirst() {
    Due.due("0", new OneGate().bestRate(1), 0);
  }

  static void promise30_leavesAll() {
    Rich.leavesAll(0, gate -> gate.bestRate(3));
    Rich.leavesAll(9, gate -> gate.bestRate(1));
  }

  static void promise30_theGreatest() {
    Due.due("9", Due.told("towns 2;" + ROAD + CARAVAN).bestRate(1), 9);
  }

  static void promise30_theLeast() {
    Due.due("0", Due.told("towns 2;" + ROAD + CARAVAN + "dues : 9 - rate;rate 5 at 1;").bestRate(1), 0);
  }

  static void promise30_ofEqualsTheFirst() {
    Due.due("the rate doesn't matter", Due.told("towns 2;" + ROAD + CARAVAN + "dues : 3;rate 5 at 1;").bestRate(1), 0);
    Due.due("more than the load", Due.told("towns 2;" + ROAD + "caravan at 0 to 1 load 4;").bestRate(1), 4);
  }

  static void promise30_beforeItIsGoneAround() {
    OneGate gate = Due.told(FORK + "rate 5 at 2;");
    Due.due("as dear as by 2: the first way", gate.bestRate(1), 5);
    Due.due("by 2 only while 1 is dearer", gate.bestRate(2), 0);
    gate.rate(1, 6);
    Due.due("cheaper than by 1", gate.bestRate(2), 5);
  }

  static void promise30_othersAsTheyAre() {
    OneGate gate = Due.told(FORK + "rate 9 at 2;");
    Due.due("9 beside 9", gate.bestRate(1), 9);
    gate.rate(2, 0);
    Due.due("0 beside 0: nothing by any", gate.bestRate(1), 0);
  }

  // ---- tempted

  static void promise31_noCaravansNobody() {
    Due.due("on a new object", new OneGate().tempted(), 0);
  }

  static void promise31_leavesAll() {
    // By 9 town 1 would take 10 of caravan 3, town 2 would take 10 and 8 in place of 7 and 7.
    Rich.leavesAll(2 + 4, gate -> gate.tempted());
  }

  static void promise31_atTheGreatestRate() {
    OneGate gate = Due.told("towns 2;" + ROAD + CARAVAN + "rate 9 at 1;");
    Due.due("nobody", gate.tempted(), 0);
    gate.rate(1, 8);
    Due.due("by 9", gate.tempted(), 2);
  }

  static void promise31_byTheLeastRate() {
    OneGate gate = Due.told("towns 2;" + ROAD + CARAVAN + "dues : 9 - rate;");
    Due.due("by 0", gate.tempted(), 2);
    gate.rate(1, 0);
    Due.due("nobody", gate.tempted(), 0);
  }

  static void promise31_notByAsMuch() {
    OneGate gate = Due.told("towns 2;" + ROAD + CARAVAN + "dues : 3;");
    Due.due("nobody", gate.tempted(), 0);
    OneGate small = Due.told("towns 2;" + ROAD + "caravan at 0 to 1 load 4;rate 4 at 1;");
    Due.due("all is taken", small.tempted(), 0);
  }

  static void promise31_allWhoseGatesAreCrossed() {
    OneGate gate = Due.told(FULL);
    Due.due("1 to 5", gate.tempted(), 62);
  }

  static void promise31_theFirstTown() {
    Due.due("0", Due.told("towns 2;road 1 to 0 days 1;caravan at 1 to 0 load 9;rate 8 at 0;").tempted(), 1);
  }

  static void promise31_whoIsGoneAround() {
    OneGate gate = Due.told(FORK + "rate 9 at 1;rate 0 at 3;rate 8 at 2;");
    Due.due("1, and 3, but not 2", gate.tempted(), 2 + 8);
  }

  // ---- grasping

  static void promise32_noCaravansNone() {
    Due.due("on a new object", new OneGate().grasping(), -1);
  }

  static void promise32_leavesAll() {
    Rich.leavesAll(2, gate -> gate.grasping());
  }

  static void promise32_gatesTakeBehindItAsBefore() {
    OneGate gate = Due.told("towns 2;" + ROAD + CARAVAN + "rate 9 at 1;");
    Due.due("town", gate.grasping(), 1);
    Due.due("best", gate.best(0, 1, 100, 0), 91);
    Due.due("town", gate.grasping(), 1);
    Due.due("income", gate.income(1), 9);
    Due.due("town", gate.grasping(), 1);
    Due.due("arrives", gate.arrives(), 91);
  }

  static void promise32_noWayNone() {
    Due.due("none", Due.told("towns 2;" + CARAVAN).grasping(), -1);
  }

  static void promise32_nothingIsTaken() {
    Due.due("none", Due.told("towns 2;" + ROAD + CARAVAN + "rate 0 at 1;").grasping(), -1);
  }

  static void promise32_oneMoreIsMore() {
    Due.due("the second", Due.told("towns 2;" + ROAD + CARAVAN).grasping(), 1);
    Due.due("the first", Due.told("towns 2;road 1 to 0 days 1;caravan at 1 to 0 load 9;").grasping(), 0);
  }

  static void promise32_ofEqualsTheFirst() {
    Due.due("all five alike", Due.told(FULL).grasping(), 1);
    Due.due("the last is dearer", Due.told(FULL + "rate 2 at 5;").grasping(), 5);
  }

  static void promise32_allWasTaken() {
    OneGate gate = Due.told("towns 3;" + ROAD + "road 1 to 2 days 1;caravan at 0 to 2 load 50;dues : load * (town - 1);");
    Due.due("the one who takes all", gate.grasping(), 2);
    OneGate both = Due.told("towns 3;" + ROAD + "road 1 to 2 days 1;caravan at 0 to 2 load 50;dues : load;");
    Due.due("one alone would let nothing more arrive", both.grasping(), -1);
  }

  static void promise32_aWayThatIsNotGoneToday() {
    OneGate gate = Due.told(FORK + "rate 5 at 1;rate 6 at 2;rate 0 at 3;eats : 1 - road;");
    // By 1: 100 - 1 - 5; without the gate of 1 5 more, without that of 2: 100, 6 more.
    Due.due("arrives", gate.arrives(), 94);
    Due.due("2", gate.grasping(), 2);
  }
}
