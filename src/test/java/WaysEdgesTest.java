/** Promises 20 to 27 at their bounds: a test for each case that the document names. */
public final class WaysEdgesTest {
  private static final int MIN = Integer.MIN_VALUE;
  private static final int MAX = Integer.MAX_VALUE;
  private static final int[] NO_TOWNS = {-1, 4, 6, MIN, MAX};
  private static final int[] NO_LOADS = {0, -1, 1000, MIN, MAX};

  /** As many towns as can be, one behind the other. */
  private static final String ROW = "towns 6;road 4 to 5 days 1;road 3 to 4 days 1;road 2 to 3 days 1;"
      + "road 1 to 2 days 1;road 0 to 1 days 1;";
  /** Two roads side by side between each two of them. */
  private static final String DOUBLE = "towns 6;road 0 to 1 days 1;road 0 to 1 days 1;road 1 to 2 days 1;"
      + "road 1 to 2 days 1;road 2 to 3 days 1;road 2 to 3 days 1;road 3 to 4 days 1;road 3 to 4 days 1;"
      + "road 4 to 5 days 1;road 4 to 5 days 1;";

  public static void main(String[] args) {
    Cases.run(WaysEdgesTest.class, 20, 27);
  }

  // ---- ways

  static void promise20_noSuchTown() {
    for (int t : NO_TOWNS) {
      Rich.leavesAll(-2, gate -> gate.ways(t, 0));
      Rich.leavesAll(-2, gate -> gate.ways(0, t));
    }
  }

  static void promise20_toItself() {
    Rich.leavesAll(1, gate -> gate.ways(3, 3));
    Rich.leavesAll(1, gate -> gate.ways(0, 0));
    Due.due("on a new object", new OneGate().ways(1, 1), 1);
  }

  static void promise20_none() {
    Rich.leavesAll(0, gate -> gate.ways(0, 3));
    Rich.leavesAll(0, gate -> gate.ways(3, 0));
  }

  static void promise20_fiveRoads() {
    Due.due("one", Due.told(ROW).ways(0, 5), 1);
    Due.due("none back", Due.told(ROW).ways(5, 0), 0);
    Due.due("two to the fifth", Due.told(DOUBLE).ways(0, 5), 32);
  }

  static void promise20_noTownTwice() {
    OneGate gate = Due.told("towns 4;road 0 to 1 days 1;road 1 to 2 days 1;road 2 to 1 days 1;road 2 to 3 days 1;");
    Due.due("not around by 1", gate.ways(0, 3), 1);
  }

  static void promise20_notBackToWhereItBegan() {
    OneGate gate = Due.told("towns 3;road 0 to 1 days 1;road 1 to 0 days 1;road 0 to 2 days 1;");
    Due.due("not by 1 and 0", gate.ways(0, 2), 1);
  }

  static void promise20_notThroughWhereItGoes() {
    OneGate gate = Due.told("towns 3;road 0 to 1 days 1;road 1 to 2 days 1;road 2 to 1 days 1;");
    Due.due("to 1 once", gate.ways(0, 1), 1);
  }

  static void promise20_openToday() {
    String land = "towns 2;road 0 to 1 days 1;opens : month = 0;day ";
    Due.due("day 29", Due.told(land + "29;").ways(0, 1), 1);
    Due.due("day 30", Due.told(land + "30;").ways(0, 1), 0);
  }

  static void promise20_openWhenItArrived() {
    String land = "towns 3;road 0 to 1 days 40;road 1 to 2 days 1;opens : road = 0 or month = 0;day ";
    // Sent on on days 359 (month 11), 360 and 389 (month 0), 390 (month 1).
    Due.due("day 319", Due.told(land + "319;").ways(0, 2), 0);
    Due.due("day 320", Due.told(land + "320;").ways(0, 2), 1);
    Due.due("day 349", Due.told(land + "349;").ways(0, 2), 1);
    Due.due("day 350", Due.told(land + "350;").ways(0, 2), 0);
  }

  static void promise20_nobodyWaits() {
    OneGate gate = Due.told("towns 3;road 0 to 1 days 1;road 1 to 2 days 1;opens : road = 0 or month = 1;day 28;");
    Due.due("there a day too soon", gate.ways(0, 2), 0);
  }

  static void promise20_robbersAndCaravansDontMatter() {
    OneGate gate = Due.told("towns 2;road 0 to 1 days 1 risk 10;caravan at 0 to 1 load 5;dues : load;");
    Due.due("one", gate.ways(0, 1), 1);
    gate.send(0, 0);
    Due.due("still", gate.ways(0, 1), 1);
  }

  // ---- reach

  static void promise21_noSuchTown() {
    for (int t : NO_TOWNS) Rich.leavesAll(-2, gate -> gate.reach(t, 0));
  }

  static void promise21_daysBelowZero() {
    Rich.leavesAll(-3, gate -> gate.reach(0, -1));
    Rich.leavesAll(-3, gate -> gate.reach(0, MIN));
  }

  static void promise21_daysAbove999() {
    Rich.leavesAll(-3, gate -> gate.reach(0, 1000));
    Rich.leavesAll(-3, gate -> gate.reach(0, MAX));
  }

  static void promise21_ofSeveralTheFirstTold() {
    Rich.leavesAll(-2, gate -> gate.reach(4, -1));
  }

  static void promise21_itselfToo() {
    Rich.leavesAll(8, gate -> gate.reach(3, 0));
    Due.due("on a new object", new OneGate().reach(1, 999), 2);
  }

  static void promise21_allSixTowns() {
    Due.due("from the first", Due.told(ROW).reach(0, 0), 63);
    Due.due("from the last", Due.told(ROW).reach(5, 0), 32);
  }

  static void promise21_in0And999Days() {
    OneGate gate = Due.told("towns 2;road 0 to 1 days 1;opens : month = 6;day 999;");
    Due.due("month 9", gate.reach(0, 0), 1);
    Due.due("day 1998, month 6", gate.reach(0, 999), 3);
    Due.due("day 1979, month 5", gate.reach(0, 980), 1);
    Due.due("day 1980, month 6", gate.reach(0, 981), 3);
  }

  static void promise21_openWhenItArrived() {
    OneGate gate = Due.told("towns 3;road 0 to 1 days 2;road 1 to 2 days 1;opens : road = 0 or month = 0;");
    Due.due("begun on day 27, sent on on day 29", gate.reach(0, 27), 7);
    Due.due("begun on day 28, sent on on day 30", gate.reach(0, 28), 3);
    Due.due("begun on day 358, sent on on day 360", gate.reach(0, 358), 7);
  }

  // ---- best

  static void promise22_noSuchTown() {
    for (int t : NO_TOWNS) {
      Rich.leavesAll(-2, gate -> gate.best(t, 0, 5, 0));
      Rich.leavesAll(-2, gate -> gate.best(0, t, 5, 0));
    }
  }

  static void promise22_noSuchWhat() {
    for (int what : new int[] {-1, 2, 9, 15, MIN, MAX}) Rich.leavesAll(-2, gate -> gate.best(0, 1, 5, what));
  }

  static void promise22_noSuchLoad() {
    for (int load : NO_LOADS) Rich.leavesAll(-3, gate -> gate.best(0, 1, load, 0));
  }

  static void promise22_ofSeveralTheFirstTold() {
    Rich.leavesAll(-2, gate -> gate.best(4, 1, 0, 0));
    Rich.leavesAll(-2, gate -> gate.best(0, 1, 0, 2));
    // All codes are ahead of NONE.
    Rich.leavesAll(-3, gate -> gate.best(0, 3, 0, 0));
    Rich.leavesAll(-2, gate -> gate.best(0, 3, 5, 15));
  }

  static void promise22_none() {
    for (int what : new int[] {0, 1, 10, 14}) Rich.leavesAll(-1, gate -> gate.best(0, 3, 5, what));
  }

  static void promise22_toItself() {
    OneGate gate = Rich.gate();
    Due.due("all arrives", gate.best(3, 3, 999, 0), 999);
    Due.due("days", gate.best(3, 3, 999, 1), 0);
    Due.due("no first road", gate.best(3, 3, 999, 10), -1);
    Due.due("no fifth", gate.best(3, 3, 999, 14), -1);
  }

  static void promise22_fiveRoads() {
    OneGate gate = Due.told(ROW);
    for (int k = 0; k < 5; k++) Due.due("road " + k, gate.best(0, 5, 999, 10 + k), 4 - k);
    Due.due("days", gate.best(0, 5, 999, 1), 5);
    Due.due("arrives", gate.best(0, 5, 999, 0), 994);
  }

  static void promise22_notSoManyRoads() {
    OneGate gate = Due.told(ROW);
    Due.due("the fourth", gate.best(1, 5, 9, 13), 0);
    Due.due("no fifth", gate.best(1, 5, 9, 14), -1);
  }

  static void promise22_loadsOf1And999() {
    OneGate gate = Due.told("towns 2;road 0 to 1 days 1;");
    Due.due("of 1", gate.best(0, 1, 1, 0), 0);
    Due.due("of 999", gate.best(0, 1, 999, 0), 998);
  }

  static void promise22_nothingArrives() {
    OneGate gate = Due.told("towns 3;road 0 to 1 days 9;road 1 to 2 days 1;road 0 to 2 days 1;dues : load;");
    Due.due("nothing", gate.best(0, 2, 5, 0), 0);
    Due.due("yet by a way, the first", gate.best(0, 2, 5, 10), 0);
    Due.due("its second road", gate.best(0, 2, 5, 11), 1);
    Due.due("its days", gate.best(0, 2, 5, 1), 10);
  }

  static void promise22_ofEqualsTheFirstByRoads() {
    OneGate gate = Due.told(DOUBLE);
    for (int k = 0; k < 5; k++) Due.due("road " + k, gate.best(0, 5, 99, 10 + k), 2 * k);
    OneGate longer = Due.told("towns 3;road 0 to 1 days 5;road 0 to 2 days 1;road 1 to 2 days 5;dues : 0;");
    Due.due("not the shorter one", longer.best(0, 2, 9, 10), 0);
    Due.due("days", longer.best(0, 2, 9, 1), 10);
  }

  static void promise22_notBackToWhereItBegan() {
    OneGate gate = Due.told("towns 3;road 0 to 1 days 1;road 1 to 0 days 1;road 0 to 2 days 1;dues : 0;");
    Due.due("no less arrives by 1 and 0, yet", gate.best(0, 2, 5, 10), 2);
    Due.due("no second road", gate.best(0, 2, 5, 11), -1);
  }

  static void promise22_eatenOfWhatIsLeftEachDay() {
    String land = "towns 2;road 0 to 1 days 2;dues : 0;eats : ";
    Due.due("50, then none", Due.told(land + "load - 50;").best(0, 1, 100, 0), 50);
    Due.due("1, then none", Due.told(land + "2 - load;").best(0, 1, 1, 0), 0);
    Due.due("all but 1", Due.told(land + "1;").best(0, 1, 3, 0), 1);
    Due.due("all", Due.told(land + "1;").best(0, 1, 2, 0), 0);
    Due.due("the last one on the first day", Due.told(land + "1;").best(0, 1, 1, 0), 0);
    Due.due("never below 0", Due.told(land + "7;").best(0, 1, 3, 0), 0);
    Due.due("never more", Due.told(land + "0 - 7;").best(0, 1, 3, 0), 3);
  }

  static void promise22_byOneMoreIsMost() {
    OneGate gate = Due.told("towns 2;road 0 to 1 days 3;road 0 to 1 days 2;eats : 1;dues : 0;");
    Due.due("the later road", gate.best(0, 1, 99, 10), 1);
    Due.due("arrives", gate.best(0, 1, 99, 0), 97);
  }

  static void promise22_behindTheLastGate() {
    OneGate gate = Due.told("towns 2;road 0 to 1 days 1;rate 9 at 1;");
    Due.due("the last gate took", gate.best(0, 1, 99, 0), 90);
  }

  static void promise22_noRobbers() {
    OneGate gate = Due.told("towns 2;road 0 to 1 days 1 risk 10;dues : 0;");
    Due.due("all", gate.best(0, 1, 99, 0), 99);
  }

  static void promise22_monthsTurnAlong() {
    OneGate gate = Due.told("towns 3;road 0 to 1 days 2;road 1 to 2 days 1;eats : month;dues : month * 10;day 358;");
    // Days 358 and 359: 11 eaten each, the gate takes 110 on day 359; day 360 is of month 0.
    Due.due("of 200", gate.best(0, 2, 200, 0), 200 - 22 - 110);
    OneGate later = Due.told("towns 3;road 0 to 1 days 2;road 1 to 2 days 1;eats : month;dues : month * 10;day 359;");
    Due.due("a day later", later.best(0, 2, 200, 0), 200 - 11);
  }

  static void promise22_begunToday() {
    OneGate gate = Due.told("towns 2;road 0 to 1 days 1;opens : month = 1;day 29;");
    Due.due("day 29", gate.best(0, 1, 5, 0), -1);
    gate.days(1, false);
    Due.due("day 30", gate.best(0, 1, 5, 0), 4);
  }

  // ---- takes

  static void promise23_noSuchTown() {
    for (int t : NO_TOWNS) {
      Rich.leavesAll(-2, gate -> gate.takes(t, 0, 5, 0));
      Rich.leavesAll(-2, gate -> gate.takes(0, t, 5, 0));
      Rich.leavesAll(-2, gate -> gate.takes(0, 1, 5, t));
    }
  }

  static void promise23_noSuchLoad() {
    for (int load : NO_LOADS) Rich.leavesAll(-3, gate -> gate.takes(0, 1, load, 1));
  }

  static void promise23_ofSeveralTheFirstTold() {
    Rich.leavesAll(-2, gate -> gate.takes(0, 1, 0, 4));
    Rich.leavesAll(-2, gate -> gate.takes(0, 3, 5, 4));
    Rich.leavesAll(-3, gate -> gate.takes(0, 3, 0, 1));
  }

  static void promise23_none() {
    Rich.leavesAll(-1, gate -> gate.takes(0, 3, 5, 1));
  }

  static void promise23_itDoesntComeThere() {
    Rich.leavesAll(0, gate -> gate.takes(0, 1, 99, 2));
  }

  static void promise23_whereItBegins() {
    Rich.leavesAll(0, gate -> gate.takes(0, 1, 99, 0));
  }

  static void promise23_toItself() {
    Rich.leavesAll(0, gate -> gate.takes(1, 1, 99, 1));
  }

  static void promise23_theLoadAtMost() {
    OneGate gate = Due.told("towns 3;road 0 to 1 days 1;road 1 to 2 days 1;dues : 7;");
    Due.due("the first of 10", gate.takes(0, 2, 10, 1), 7);
    Due.due("the second what is left", gate.takes(0, 2, 10, 2), 3);
    Due.due("of 7 nothing is left", gate.takes(0, 2, 7, 2), 0);
    Due.due("of 1", gate.takes(0, 2, 1, 1), 1);
  }

  static void promise23_ofWhatIsLeftThere() {
    OneGate gate = Due.told("towns 3;road 0 to 1 days 2;road 1 to 2 days 3;dues : load - 40;eats : 10;");
    Due.due("of 80", gate.takes(0, 2, 100, 1), 40);
    Due.due("of 10", gate.takes(0, 2, 100, 2), 0);
    OneGate half = Due.told("towns 3;road 0 to 1 days 1;road 1 to 2 days 1;dues : load - 100 + town * 10;eats : 5;");
    Due.due("of 195", half.takes(0, 2, 200, 1), 105);
    Due.due("of 85", half.takes(0, 2, 200, 2), 5);
  }

  static void promise23_allFiveGates() {
    OneGate gate = Due.told(ROW + "dues : town * 10;");
    for (int t = 0; t < 6; t++) Due.due("gate " + t, gate.takes(0, 5, 999, t), t * 10);
  }

  // ---- soonest

  static void promise24_noSuchTown() {
    for (int t : NO_TOWNS) {
      Rich.leavesAll(-2, gate -> gate.soonest(t, 0, 0));
      Rich.leavesAll(-2, gate -> gate.soonest(0, t, 0));
    }
  }

  static void promise24_noSuchWhat() {
    for (int what : new int[] {-1, 1, 2, 9, 15, MIN, MAX}) Rich.leavesAll(-2, gate -> gate.soonest(0, 1, what));
  }

  static void promise24_codesAheadOfNone() {
    Rich.leavesAll(-2, gate -> gate.soonest(0, 3, 15));
  }

  static void promise24_none() {
    for (int what : new int[] {0, 10, 14}) Rich.leavesAll(-1, gate -> gate.soonest(0, 3, what));
  }

  static void promise24_toItself() {
    Rich.leavesAll(0, gate -> gate.soonest(3, 3, 0));
    Rich.leavesAll(-1, gate -> gate.soonest(3, 3, 10));
  }

  static void promise24_fiveRoads() {
    OneGate gate = Due.told(ROW);
    Due.due("days", gate.soonest(0, 5, 0), 5);
    for (int k = 0; k < 5; k++) Due.due("road " + k, gate.soonest(0, 5, 10 + k), 4 - k);
    Due.due("not so many", gate.soonest(1, 5, 14), -1);
  }

  static void promise24_theLongestWay() {
    OneGate gate = Due.told(ROW.replace("days 1", "days 40"));
    Due.due("days", gate.soonest(0, 5, 0), 200);
  }

  static void promise24_ofEqualsTheFirstByRoads() {
    OneGate gate = Due.told(DOUBLE);
    for (int k = 0; k < 5; k++) Due.due("road " + k, gate.soonest(0, 5, 10 + k), 2 * k);
    OneGate mixed = Due.told("towns 3;road 0 to 1 days 2;road 0 to 2 days 4;road 1 to 2 days 2;");
    Due.due("two roads of 4 days, first by roads", mixed.soonest(0, 2, 10), 0);
    OneGate fewer = Due.told("towns 3;road 0 to 1 days 2;road 0 to 2 days 3;road 1 to 2 days 2;");
    Due.due("one of 3 days", fewer.soonest(0, 2, 10), 1);
  }

  static void promise24_openOnly() {
    OneGate gate = Due.told("towns 2;road 0 to 1 days 1;road 0 to 1 days 40;opens : road = 1 or month = 1;day 29;");
    Due.due("day 29", gate.soonest(0, 1, 0), 40);
    gate.days(1, false);
    Due.due("day 30", gate.soonest(0, 1, 0), 1);
  }

  // ---- safest

  static void promise25_noSuchTown() {
    for (int t : NO_TOWNS) {
      Rich.leavesAll(-2, gate -> gate.safest(t, 0, 0));
      Rich.leavesAll(-2, gate -> gate.safest(0, t, 0));
    }
  }

  static void promise25_noSuchWhat() {
    for (int what : new int[] {-1, 2, 9, 15, MIN, MAX}) Rich.leavesAll(-2, gate -> gate.safest(0, 1, what));
  }

  static void promise25_codesAheadOfNone() {
    Rich.leavesAll(-2, gate -> gate.safest(0, 3, 2));
  }

  static void promise25_none() {
    for (int what : new int[] {0, 1, 10, 14}) Rich.leavesAll(-1, gate -> gate.safest(0, 3, what));
  }

  static void promise25_toItself() {
    Rich.leavesAll(1, gate -> gate.safest(3, 3, 0));
    Rich.leavesAll(1, gate -> gate.safest(3, 3, 1));
    Rich.leavesAll(-1, gate -> gate.safest(3, 3, 10));
  }

  static void promise25_neverSafe() {
    OneGate gate = Due.told("towns 2;road 0 to 1 days 1 risk 10;road 0 to 1 days 9 risk 10;");
    Due.due("0", gate.safest(0, 1, 0), 0);
    Due.due("in 1", gate.safest(0, 1, 1), 1);
    Due.due("the first", gate.safest(0, 1, 10), 0);
  }

  static void promise25_alwaysSafe() {
    OneGate gate = Due.told(ROW);
    Due.due("1", gate.safest(0, 5, 0), 1);
    Due.due("in 1", gate.safest(0, 5, 1), 1);
  }

  static void promise25_lowestTerms() {
    int[] above = {1, 9, 4, 7, 3, 1, 2, 3, 1, 1, 0};
    int[] below = {1, 10, 5, 10, 5, 2, 5, 10, 5, 10, 1};
    for (int risk = 0; risk <= 10; risk++) {
      OneGate gate = Due.told("towns 2;road 0 to 1 days 1 risk " + risk + ";");
      Due.due("risk " + risk, gate.safest(0, 1, 0), above[risk]);
      Due.due("risk " + risk, gate.safest(0, 1, 1), below[risk]);
    }
  }

  static void promise25_fiveRoads() {
    OneGate gate = Due.told(ROW.replace("days 1", "days 1 risk 1"));
    Due.due("9 to the fifth", gate.safest(0, 5, 0), 59049);
    Due.due("in 10 to the fifth", gate.safest(0, 5, 1), 100000);
    for (int k = 0; k < 5; k++) Due.due("road " + k, gate.safest(0, 5, 10 + k), 4 - k);
    OneGate least = Due.told(ROW.replace("days 1", "days 1 risk 9"));
    Due.due("1", least.safest(0, 5, 0), 1);
    Due.due("in 10 to the fifth", least.safest(0, 5, 1), 100000);
    OneGate half = Due.told(ROW.replace("days 1", "days 1 risk 5"));
    Due.due("1", half.safest(0, 5, 0), 1);
    Due.due("in 2 to the fifth", half.safest(0, 5, 1), 32);
  }

  static void promise25_aLittleSafer() {
    // 7 in 10 by one road; 9 9 9 in 1000 by three: 729.
    OneGate gate = Due.told("towns 4;road 0 to 3 days 1 risk 3;road 0 to 1 days 1 risk 1;road 1 to 2 days 1 risk 1;"
        + "road 2 to 3 days 1 risk 1;");
    Due.due("729", gate.safest(0, 3, 0), 729);
    Due.due("in 1000", gate.safest(0, 3, 1), 1000);
    Due.due("by", gate.safest(0, 3, 10), 1);
  }

  static void promise25_ofEqualsTheFirstByRoads() {
    OneGate gate = Due.told("towns 3;road 0 to 1 days 9 risk 5;road 0 to 2 days 1 risk 6;road 1 to 2 days 9 risk 2;");
    Due.due("5 by 8 and 4", gate.safest(0, 2, 10), 0);
    Due.due("2", gate.safest(0, 2, 0), 2);
    Due.due("in 5", gate.safest(0, 2, 1), 5);
  }

  // ---- needed

  static void promise26_noSuchTown() {
    for (int t : NO_TOWNS) {
      Rich.leavesAll(-2, gate -> gate.needed(t, 0));
      Rich.leavesAll(-2, gate -> gate.needed(0, t));
    }
  }

  static void promise26_thereIsNoneAnyhow() {
    Rich.leavesAll(0, gate -> gate.needed(0, 3));
  }

  static void promise26_toItself() {
    Rich.leavesAll(0, gate -> gate.needed(3, 3));
    Rich.leavesAll(0, gate -> gate.needed(0, 0));
  }

  static void promise26_allFive() {
    Due.due("each", Due.told(ROW).needed(0, 5), 31);
  }

  static void promise26_noneOfTwoSideBySide() {
    Due.due("none", Due.told(DOUBLE).needed(0, 5), 0);
  }

  static void promise26_theTenthRoad() {
    OneGate gate = Due.told("towns 6;road 0 to 1 days 1;road 0 to 1 days 1;road 0 to 1 days 1;road 0 to 1 days 1;"
        + "road 0 to 1 days 1;road 0 to 1 days 1;road 0 to 1 days 1;road 0 to 1 days 1;road 0 to 1 days 1;"
        + "road 1 to 5 days 1;");
    Due.due("the last", gate.needed(0, 5), 512);
  }

  static void promise26_neededForTheOthersAreShut() {
    OneGate gate = Due.told("towns 2;road 0 to 1 days 1;road 0 to 1 days 1;opens : road = 1 or month = 1;day 29;");
    Due.due("day 29", gate.needed(0, 1), 2);
    gate.days(1, false);
    Due.due("day 30", gate.needed(0, 1), 0);
  }

  // ---- leave

  static void promise27_noSuchTown() {
    for (int t : NO_TOWNS) {
      Rich.leavesAll(-2, gate -> gate.leave(t, 0, 5));
      Rich.leavesAll(-2, gate -> gate.leave(0, t, 5));
    }
  }

  static void promise27_noSuchLoad() {
    for (int load : NO_LOADS) Rich.leavesAll(-3, gate -> gate.leave(0, 1, load));
  }

  static void promise27_ofSeveralTheFirstTold() {
    Rich.leavesAll(-2, gate -> gate.leave(0, 4, 0));
    Rich.leavesAll(-3, gate -> gate.leave(0, 3, 0));
  }

  static void promise27_noneOnAny() {
    Rich.leavesAll(-1, gate -> gate.leave(0, 3, 5));
  }

  static void promise27_toItselfToday() {
    Rich.leavesAll(0, gate -> gate.leave(3, 3, 5));
  }

  static void promise27_today() {
    OneGate gate = Due.told("towns 2;road 0 to 1 days 1;dues : month;day 29;");
    Due.due("month 0 is the best", gate.leave(0, 1, 5), 0);
  }

  static void promise27_theLastDay() {
    String land = "towns 2;road 0 to 1 days 1;opens : month = 5;day ";
    Due.due("day 150 in 99", Due.told(land + "51;").leave(0, 1, 5), 99);
    Due.due("in 100: none", Due.told(land + "50;").leave(0, 1, 5), -1);
  }

  static void promise27_moreOnALaterDay() {
    String land = "towns 2;road 0 to 1 days 1;dues : 1 - month + 4;day ";
    Due.due("the best month within", Due.told(land + "0;").leave(0, 1, 9), 90);
    Due.due("day 150 in 99", Due.told(land + "51;").leave(0, 1, 9), 99);
    Due.due("day 150 not within", Due.told(land + "50;").leave(0, 1, 9), 70);
  }

  static void promise27_ofEqualDaysTheFirst() {
    OneGate gate = Due.told("towns 2;road 0 to 1 days 1;opens : month > 0;day 20;");
    Due.due("day 30", gate.leave(0, 1, 5), 10);
  }

  static void promise27_nothingArrivesYetThereIsAWay() {
    OneGate gate = Due.told("towns 2;road 0 to 1 days 1;dues : load;opens : month = 1;day 20;");
    Due.due("the first by a way", gate.leave(0, 1, 5), 10);
  }

  static void promise27_theTurnOfTheYear() {
    OneGate gate = Due.told("towns 2;road 0 to 1 days 1;dues : month;day 300;");
    Due.due("day 360", gate.leave(0, 1, 99), 60);
  }

  static void promise27_loadsOf1And999() {
    OneGate gate = Due.told("towns 2;road 0 to 1 days 1;dues : 1 - month;");
    Due.due("of 1", gate.leave(0, 1, 1), 30);
    Due.due("of 999", gate.leave(0, 1, 999), 30);
  }
}
