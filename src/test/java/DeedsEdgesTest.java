/** Promises 11 to 19 at their bounds: a test for each case that the document names. */
public final class DeedsEdgesTest {
  private static final int MIN = Integer.MIN_VALUE;
  private static final int MAX = Integer.MAX_VALUE;
  private static final String ROAD = "road 0 to 1 days 1;";
  private static final String CARAVAN = "caravan at 0 to 1 load 100;";

  public static void main(String[] args) {
    Cases.run(DeedsEdgesTest.class, 11, 19);
  }

  private static int nextX(int x) {
    return (int) (1103515245L * x + 12345L);
  }

  private static int drawOf(int x) {
    return (int) (Math.floorMod((long) x, 1L << 32) / 65536);
  }

  // ---- seed

  static void promise11_zeroAtFirst() {
    Due.due("x", new OneGate().seed(9), 0);
  }

  static void promise11_theLeastAndTheGreatest() {
    OneGate gate = new OneGate();
    gate.seed(MIN);
    Due.due("the least", gate.seed(MAX), MIN);
    Due.due("the greatest", gate.seed(-1), MAX);
    Due.due("-1 is one too", gate.seed(0), -1);
  }

  static void promise11_canBeUndone() {
    OneGate gate = new OneGate();
    gate.seed(5);
    gate.seed(6);
    Due.due("two", gate.undo(1), 1);
    Due.due("x as it was", gate.seed(0), 5);
  }

  static void promise11_canBeUndoneEvenIfXStays() {
    OneGate gate = new OneGate();
    gate.seed(0);
    Due.due("a call", gate.count(9), 1);
    Due.due("undone", gate.undo(1), 0);
  }

  static void promise11_theEldestIsForgotten() {
    OneGate gate = new OneGate();
    for (int i = 1; i <= 11; i++) gate.seed(i);
    Due.due("ten", gate.count(9), 10);
    gate.undo(10);
    Due.due("behind the first", gate.seed(0), 1);
  }

  // ---- start

  static void promise12_noSuchTownToBeAt() {
    for (int at : new int[] {-1, 4, 6, MIN, MAX}) Rich.leavesAll(-2, gate -> gate.start(at, 0, 5));
  }

  static void promise12_noSuchTownToGoTo() {
    for (int to : new int[] {-1, 4, 6, MIN, MAX}) Rich.leavesAll(-2, gate -> gate.start(0, to, 5));
  }

  static void promise12_loadBelowOne() {
    for (int load : new int[] {0, -1, MIN}) Rich.leavesAll(-3, gate -> gate.start(0, 1, load));
  }

  static void promise12_loadAbove999() {
    for (int load : new int[] {1000, MAX}) Rich.leavesAll(-3, gate -> gate.start(0, 1, load));
  }

  static void promise12_loadsOf1And999() {
    OneGate gate = new OneGate();
    Due.due("the first", gate.start(0, 1, 1), 0);
    Due.due("the second", gate.start(1, 0, 999), 1);
    Due.due("load", gate.caravan(0, 4), 1);
    Due.due("load", gate.caravan(1, 4), 999);
  }

  static void promise12_sixAndNoMore() {
    OneGate gate = new OneGate();
    for (int c = 0; c < 6; c++) Due.due("number", gate.start(0, 1, 5), c);
    Due.due("a seventh", gate.start(0, 1, 5), -4);
    Due.due("six", gate.count(2), 6);
    Due.due("six calls", gate.count(9), 6);
  }

  private static OneGate full() {
    OneGate gate = Rich.gate();
    gate.start(3, 0, 999);
    gate.start(0, 0, 1);
    return gate;
  }

  static void promise12_aSeventhLeavesAll() {
    Rich.leavesAll(-4, gate -> gate.start(0, 1, 5), DeedsEdgesTest::full);
  }

  static void promise12_ofSeveralTheFirstTold() {
    Rich.leavesAll(-2, gate -> gate.start(0, 4, 0), DeedsEdgesTest::full);
    Rich.leavesAll(-2, gate -> gate.start(-1, 0, 5), DeedsEdgesTest::full);
    Rich.leavesAll(-3, gate -> gate.start(0, 1, 0), DeedsEdgesTest::full);
    Rich.leavesAll(-2, gate -> gate.start(4, 0, 1000));
  }

  static void promise12_whereItGoes() {
    OneGate gate = new OneGate();
    Due.due("to where it is", gate.start(1, 1, 5), 0);
    Due.due("there", gate.count(3), 1);
  }

  static void promise12_undoneThereIsRoomAgain() {
    OneGate gate = full();
    Due.due("undone", gate.undo(1), 6);
    Due.due("the sixth again", gate.start(2, 3, 7), 5);
    Due.due("its load", gate.caravan(5, 4), 7);
    Due.due("where it is", gate.caravan(5, 0), 2);
    Due.due("where it goes", gate.caravan(5, 3), 3);
    Due.due("on no road", gate.caravan(5, 1), -1);
    Due.due("none left", gate.caravan(5, 2), 0);
  }

  // ---- send

  static void promise13_noSuchCaravan() {
    for (int c : new int[] {-1, 4, 6, MIN, MAX}) Rich.leavesAll(-11, gate -> gate.send(c, 0));
  }

  static void promise13_noSuchRoad() {
    for (int r : new int[] {-1, 5, 10, MIN, MAX}) Rich.leavesAll(-11, gate -> gate.send(3, r));
  }

  static void promise13_itIsOnARoad() {
    Rich.leavesAll(-12, gate -> gate.send(2, 0));
    Rich.leavesAll(-12, gate -> gate.send(2, 1));
  }

  static void promise13_theRoadBeginsElsewhere() {
    Rich.leavesAll(-12, gate -> gate.send(0, 0));
    Rich.leavesAll(-12, gate -> gate.send(3, 1));
  }

  static void promise13_itIsNotOpen() {
    Rich.leavesAll(-13, gate -> gate.send(3, 2));
  }

  static void promise13_ofSeveralTheFirstTold() {
    // No such road of one on a road; on a road, and shut; elsewhere, and shut.
    Rich.leavesAll(-11, gate -> gate.send(2, 5));
    Rich.leavesAll(-12, gate -> gate.send(2, 2));
    Rich.leavesAll(-12, gate -> gate.send(0, 2));
  }

  static void promise13_openFromToday() {
    OneGate gate = Rich.gate();
    Due.due("day 29", gate.send(3, 2), -13);
    gate.days(1, false);
    Due.due("day 30", gate.send(3, 2), 1);
  }

  static void promise13_openUntilToday() {
    OneGate gate = Due.told("towns 2;" + ROAD + CARAVAN.repeat(2) + "opens : month = 0;day 29;");
    Due.due("day 29", gate.send(0, 0), 1);
    gate.days(1, false);
    Due.due("day 30", gate.send(1, 0), -13);
  }

  static void promise13_daysAhead() {
    OneGate gate = Due.told("towns 2;" + ROAD + "road 0 to 1 days 40;" + CARAVAN.repeat(2));
    Due.due("1", gate.send(0, 0), 1);
    Due.due("40", gate.send(1, 1), 40);
    Due.due("ahead", gate.caravan(1, 2), 40);
  }

  static void promise13_theLastCaravanOnTheLastRoad() {
    OneGate gate = Due.told("towns 2;" + ROAD.repeat(9) + "road 0 to 1 days 7;" + CARAVAN.repeat(6));
    Due.due("sent", gate.send(5, 9), 7);
    Due.due("its road", gate.caravan(5, 1), 9);
    Due.due("alone", gate.count(4), 32);
    Due.due("a seventh", gate.send(6, 9), -11);
    Due.due("an eleventh road", gate.send(0, 10), -11);
  }

  static void promise13_manyOnOneRoad() {
    OneGate gate = Due.told("towns 2;" + ROAD + CARAVAN.repeat(6));
    for (int c = 0; c < 6; c++) Due.due("sent", gate.send(c, 0), 1);
    Due.due("all", gate.count(4), 63);
  }

  static void promise13_fromWhereItGoes() {
    OneGate gate = Due.told("towns 2;" + ROAD + "caravan at 0 to 0 load 1;");
    Due.due("sent all the same", gate.send(0, 0), 1);
    Due.due("no more there", gate.count(3), 0);
  }

  static void promise13_withNothingLeft() {
    OneGate gate = Due.told("towns 2;" + ROAD + "road 1 to 0 days 2;" + CARAVAN + "dues : load;");
    gate.send(0, 0);
    gate.days(1, false);
    Due.due("load", gate.caravan(0, 4), 0);
    Due.due("sent all the same", gate.send(0, 1), 2);
  }

  static void promise13_undoneItIsInItsTown() {
    OneGate gate = Due.told("towns 2;" + ROAD + CARAVAN);
    gate.send(0, 0);
    gate.undo(1);
    Due.due("town", gate.caravan(0, 0), 0);
    Due.due("road", gate.caravan(0, 1), -1);
    Due.due("left", gate.caravan(0, 2), 0);
    Due.due("sent again", gate.send(0, 0), 1);
  }

  // ---- rate

  static void promise14_noSuchTown() {
    for (int t : new int[] {-1, 4, 6, MIN, MAX}) Rich.leavesAll(-2, gate -> gate.rate(t, 5));
  }

  static void promise14_rateBelowZero() {
    Rich.leavesAll(-3, gate -> gate.rate(0, -1));
    Rich.leavesAll(-3, gate -> gate.rate(0, MIN));
  }

  static void promise14_rateAboveNine() {
    Rich.leavesAll(-3, gate -> gate.rate(0, 10));
    Rich.leavesAll(-3, gate -> gate.rate(0, MAX));
  }

  static void promise14_ofSeveralTheFirstTold() {
    Rich.leavesAll(-2, gate -> gate.rate(4, 10));
  }

  static void promise14_ratesOf0And9() {
    OneGate gate = Due.told("towns 6;");
    Due.due("1 at first", gate.rate(5, 9), 1);
    Due.due("what it was", gate.rate(5, 0), 9);
    Due.due("what it was", gate.rate(5, 4), 0);
    Due.due("it is", gate.town(5, 0), 4);
    Due.due("others stay", gate.town(4, 0), 1);
  }

  static void promise14_theSameRateIsACall() {
    OneGate gate = new OneGate();
    Due.due("as it was", gate.rate(0, 1), 1);
    Due.due("can be undone", gate.undo(1), 0);
  }

  // ---- days

  static void promise15_nBelowOne() {
    for (int n : new int[] {0, -1, MIN}) Rich.leavesAll(-3, gate -> gate.days(n, true));
  }

  static void promise15_nAbove99() {
    for (int n : new int[] {100, MAX}) Rich.leavesAll(-3, gate -> gate.days(n, false));
  }

  static void promise15_oneAnd99() {
    OneGate gate = new OneGate();
    Due.due("nobody came", gate.days(1, true), 0);
    Due.due("day", gate.count(7), 1);
    Due.due("nobody came", gate.days(99, true), 0);
    Due.due("day", gate.count(7), 100);
    Due.due("two calls", gate.count(9), 2);
  }

  static void promise15_daysGoOnBehind999() {
    OneGate gate = Due.told("towns 2;day 999;");
    gate.days(1, true);
    Due.due("day", gate.count(7), 1000);
    for (int i = 0; i < 100; i++) gate.days(99, false);
    Due.due("day", gate.count(7), 10900);
    Due.due("month: 363 modulo 12", gate.count(8), 3);
  }

  static void promise15_asManyCallsAsAnObjectIsUsedFor() {
    OneGate gate = Due.told("towns 2;" + ROAD + "opens : month = 5;day 999;");
    // Three to feed the text and one to read it, 505, and three more: 512.
    for (int i = 0; i < 505; i++) gate.days(99, true);
    Due.due("ten calls can be undone", gate.count(9), 10);
    Due.due("day", gate.count(7), 999 + 505 * 99);
    Due.due("in 999 days month 1733 modulo 12", gate.open(0, 999), 1);
  }

  static void promise15_monthsTurn() {
    OneGate gate = Due.told("towns 2;day 28;");
    gate.days(1, false);
    Due.due("day 29", gate.count(8), 0);
    gate.days(1, false);
    Due.due("day 30", gate.count(8), 1);
    OneGate year = Due.told("towns 2;day 358;");
    year.days(1, false);
    Due.due("day 359", year.count(8), 11);
    year.days(1, false);
    Due.due("day 360", year.count(8), 0);
  }

  static void promise15_itArrivesWhenNoDayIsLeft() {
    OneGate gate = Due.told("towns 2;road 0 to 1 days 40;" + CARAVAN);
    gate.send(0, 0);
    Due.due("not in 39", gate.days(39, false), 0);
    Due.due("in 40", gate.days(1, false), 1);
    Due.due("no more", gate.days(99, false), 0);
  }

  static void promise15_allSixArrive() {
    OneGate gate = Due.told("towns 2;" + ROAD + "road 0 to 1 days 40;" + CARAVAN.repeat(6));
    for (int c = 0; c < 6; c++) gate.send(c, c < 3 ? 0 : 1);
    Due.due("on two days", gate.days(99, false), 6);
    Due.due("there", gate.count(3), 63);
    Due.due("chest", gate.town(1, 1), 6);
  }

  static void promise15_inTownsNothingIsEaten() {
    OneGate gate = Due.told("towns 2;" + ROAD + CARAVAN + "eats : 9;dues : 9;");
    gate.days(99, true);
    Due.due("load", gate.caravan(0, 4), 100);
    Due.due("chests", gate.count(6), 0);
  }

  static void promise15_eatenByEachDaysMonth() {
    OneGate gate = Due.told("towns 2;road 0 to 1 days 3;" + CARAVAN + "eats : month * 10 + 1;dues : 0;day 28;");
    gate.send(0, 0);
    gate.days(3, false);
    Due.due("1 and 1 and 11", gate.caravan(0, 4), 87);
  }

  static void promise15_theGateTakesByTheDayAsItIs() {
    OneGate last = Due.told("towns 2;" + ROAD + CARAVAN + "dues : month * 10 + 1;day 29;");
    last.send(0, 0);
    last.days(1, false);
    Due.due("day 29", last.town(1, 1), 1);
    OneGate first = Due.told("towns 2;" + ROAD + CARAVAN + "dues : month * 10 + 1;day 30;");
    first.send(0, 0);
    first.days(1, false);
    Due.due("day 30", first.town(1, 1), 11);
  }

  static void promise15_theGateTakesBySeaAndLand() {
    OneGate gate = Due.told("towns 2;" + ROAD + "road 0 to 1 days 1 sea;" + CARAVAN.repeat(2) + "dues : sea * 9;");
    gate.send(0, 0);
    gate.send(1, 1);
    gate.days(1, false);
    Due.due("by land", gate.caravan(0, 4), 100);
    Due.due("by sea", gate.caravan(1, 4), 91);
  }

  static void promise15_neverBelowNothing() {
    OneGate gate = Due.told("towns 2;road 0 to 1 days 40;caravan at 0 to 1 load 3;eats : 2;dues : 5;");
    gate.send(0, 0);
    gate.days(1, false);
    Due.due("1 left", gate.caravan(0, 4), 1);
    gate.days(1, false);
    Due.due("none left", gate.caravan(0, 4), 0);
    Due.due("it arrives", gate.days(38, false), 1);
    Due.due("nothing", gate.count(5), 0);
    Due.due("nothing was taken", gate.count(6), 0);
  }

  static void promise15_neverMoreThanThereWas() {
    OneGate gate = Due.told("towns 2;" + ROAD + CARAVAN + "eats : 0 - 5;dues : 0 - 5;");
    gate.send(0, 0);
    gate.days(1, false);
    Due.due("load", gate.caravan(0, 4), 100);
    Due.due("chest", gate.town(1, 1), 0);
  }

  private static int robbed(int load) {
    OneGate gate = Due.told("towns 2;road 0 to 1 days 1 risk 10;caravan at 0 to 1 load " + load + ";dues : 0;");
    gate.send(0, 0);
    gate.days(1, true);
    return gate.caravan(0, 4);
  }

  static void promise15_aTenthIsCut() {
    int[] loads = {1, 9, 10, 11, 19, 20, 99, 100, 999};
    int[] left = {1, 9, 9, 10, 18, 18, 90, 90, 900};
    for (int i = 0; i < loads.length; i++) Due.due("of " + loads[i], robbed(loads[i]), left[i]);
  }

  static void promise15_robbedBehindEatingAheadOfTheGate() {
    OneGate gate = Due.told("towns 2;road 0 to 1 days 1 risk 10;" + CARAVAN + "eats : 1;dues : 10;");
    gate.send(0, 0);
    gate.days(1, true);
    Due.due("99, 90, 80", gate.caravan(0, 4), 80);
  }

  static void promise15_riskZeroIsNotDrawn() {
    OneGate gate = Due.told("towns 2;road 0 to 1 days 1 risk 0;" + CARAVAN);
    gate.seed(5);
    gate.send(0, 0);
    gate.days(1, true);
    Due.due("x", gate.seed(0), 5);
    Due.due("load", gate.caravan(0, 4), 99);
  }

  static void promise15_riskTenIsDrawnAndAlwaysRobbed() {
    for (int seed = -8; seed < 8; seed++) {
      OneGate gate = Due.told("towns 2;road 0 to 1 days 1 risk 10;" + CARAVAN);
      gate.seed(seed);
      gate.send(0, 0);
      gate.days(1, true);
      Due.due("load", gate.caravan(0, 4), 89);
      Due.due("x", gate.seed(0), nextX(seed));
    }
  }

  static void promise15_withoutRobbersNothingIsDrawn() {
    OneGate gate = Due.told("towns 2;road 0 to 1 days 1 risk 10;" + CARAVAN);
    gate.send(0, 0);
    gate.days(1, false);
    Due.due("load", gate.caravan(0, 4), 99);
    Due.due("x", gate.seed(0), 0);
  }

  static void promise15_drawnOnlyWhenNoDayIsLeft() {
    OneGate gate = Due.told("towns 2;road 0 to 1 days 2 risk 10;" + CARAVAN);
    gate.send(0, 0);
    gate.days(1, true);
    Due.due("not yet", gate.seed(0), 0);
    gate.days(1, true);
    Due.due("once", gate.seed(0), 12345);
  }

  static void promise15_drawnEvenOfNothing() {
    OneGate gate = Due.told("towns 2;road 0 to 1 days 1 risk 3;" + CARAVAN + "eats : load;");
    gate.send(0, 0);
    gate.days(1, true);
    Due.due("drawn", gate.seed(0), 12345);
    Due.due("nothing", gate.count(5), 0);
  }

  /** The first seed from which the next draw, modulo 10, is this. */
  private static int seedOf(int modulo, boolean negative) {
    int seed = 0;
    while (drawOf(nextX(seed)) % 10 != modulo || nextX(seed) < 0 != negative) seed++;
    return seed;
  }

  static void promise15_robbedIfTheDrawIsBelowTheRisk() {
    for (int risk = 1; risk <= 10; risk++) {
      for (int modulo : new int[] {0, risk - 1, risk, 9}) {
        if (modulo > 9) continue;
        OneGate gate = Due.told("towns 2;road 0 to 1 days 1 risk " + risk + ";" + CARAVAN + "dues : 0;");
        gate.seed(seedOf(modulo, risk % 2 == 0));
        gate.send(0, 0);
        gate.days(1, true);
        Due.due("draw " + modulo + " risk " + risk, gate.caravan(0, 4), modulo < risk ? 90 : 100);
      }
    }
  }

  static void promise15_drawsWrapAround() {
    // The product overflows; x may come out below 0, and its upper half counts as from 0 to 65535.
    for (int seed : new int[] {MIN, MIN + 1, -1, 1, 2, 65536, MAX - 1, MAX}) {
      OneGate gate = Due.told("towns 2;road 0 to 1 days 1 risk 5;" + CARAVAN + "dues : 0;");
      gate.seed(seed);
      gate.send(0, 0);
      gate.days(1, true);
      int x = nextX(seed);
      Due.due("load of " + seed, gate.caravan(0, 4), drawOf(x) % 10 < 5 ? 90 : 100);
      Due.due("x of " + seed, gate.seed(0), x);
    }
  }

  static void promise15_drawsByNumbers() {
    int seed = 0;
    while (drawOf(nextX(seed)) % 10 >= 5 || drawOf(nextX(nextX(seed))) % 10 < 5) seed++;
    OneGate gate = Due.told("towns 2;road 0 to 1 days 1 risk 5;" + CARAVAN.repeat(2) + "dues : 0;");
    gate.seed(seed);
    gate.send(1, 0);
    gate.send(0, 0);
    gate.days(1, true);
    Due.due("the first by numbers is robbed", gate.caravan(0, 4), 90);
    Due.due("the second is not", gate.caravan(1, 4), 100);
  }

  static void promise15_whoCameIsNotSentOn() {
    OneGate gate = Due.told("towns 3;" + ROAD + "road 1 to 2 days 1;caravan at 0 to 2 load 100;");
    gate.send(0, 0);
    gate.days(9, false);
    Due.due("it waits", gate.caravan(0, 0), 1);
  }

  // ---- undo

  static void promise16_nBelowOne() {
    for (int n : new int[] {0, -1, MIN}) Rich.leavesAll(-3, gate -> gate.undo(n));
  }

  static void promise16_moreThanCanBe() {
    for (int n : new int[] {6, 10, 11, MAX}) Rich.leavesAll(-3, gate -> gate.undo(n));
  }

  static void promise16_allThatCanBe() {
    OneGate gate = Rich.gate();
    Due.due("five", gate.undo(5), 0);
    Due.due("no more", gate.undo(1), -3);
  }

  static void promise16_nAboveTen() {
    OneGate gate = new OneGate();
    for (int i = 0; i < 12; i++) gate.rate(0, i % 10);
    Due.due("eleven", gate.undo(11), -3);
    Due.due("ten", gate.undo(10), 0);
  }

  static void promise16_theEldestAreForgotten() {
    OneGate gate = new OneGate();
    for (int i = 0; i < 12; i++) {
      gate.days(1, false);
      Due.due("ten at most", gate.count(9), Math.min(10, i + 1));
    }
    Due.due("ten", gate.undo(10), 0);
    Due.due("two days stay", gate.count(7), 2);
  }

  static void promise16_theEldestAreForgottenStepByStep() {
    OneGate gate = new OneGate();
    for (int i = 0; i < 25; i++) gate.rate(0, i % 10);
    for (int i = 23; i >= 14; i--) {
      Due.due("still can be", gate.undo(1), i - 14);
      Due.due("rate", gate.town(0, 0), i % 10);
    }
    Due.due("no more", gate.undo(1), -3);
  }

  static void promise16_theLatestFirst() {
    OneGate gate = new OneGate();
    for (int n = 2; n <= 9; n++) gate.rate(0, n);
    for (int n = 8; n >= 2; n--) {
      Due.due("still can be", gate.undo(1), n - 1);
      Due.due("rate", gate.town(0, 0), n);
    }
    Due.due("the last", gate.undo(1), 0);
    Due.due("rate", gate.town(0, 0), 1);
  }

  static void promise16_bringsBackAll() {
    OneGate gate = Rich.gate();
    gate.undo(5);
    OneGate fresh = Due.told(Rich.TEXT);
    for (int what = 0; what < 9; what++) Due.due("count " + what, gate.count(what), fresh.count(what));
    for (int t = 0; t < 4; t++) {
      for (int what = 0; what < 4; what++) Due.due("town " + t, gate.town(t, what), fresh.town(t, what));
    }
    for (int c = 0; c < 4; c++) {
      for (int what = 0; what < 5; what++) Due.due("caravan " + c, gate.caravan(c, what), fresh.caravan(c, what));
    }
    Due.due("x", gate.seed(0), 0);
  }

  static void promise16_bringsBackLoadsChestsDayAndX() {
    OneGate gate = Due.told("towns 2;road 0 to 1 days 3 risk 9;" + CARAVAN + "eats : 7;rate 9 at 1;day 40;");
    gate.send(0, 0);
    gate.days(1, true);
    gate.seed(4);
    gate.days(99, true);
    Due.due("it came", gate.count(3), 1);
    Due.due("undone", gate.undo(1), 3);
    Due.due("load", gate.caravan(0, 4), 93);
    Due.due("left", gate.caravan(0, 2), 2);
    Due.due("chest", gate.town(1, 1), 0);
    Due.due("day", gate.count(7), 41);
    Due.due("x", gate.seed(0), 4);
  }

  static void promise16_callsThatDidSome() {
    OneGate gate = Due.told("towns 2;" + ROAD + CARAVAN);
    Due.write(gate, 0, 1, 200, -1);
    gate.seed(1);
    gate.start(0, 1, 5);
    gate.send(0, 0);
    gate.rate(0, 5);
    gate.days(5, true);
    gate.perform(0);
    Due.due("six calls", gate.count(9), 6);
    Due.due("a year did some", gate.year(3, 40) > 0 ? 1 : 0, 1);
    Due.due("seven", gate.count(9), 7);
  }

  static void promise16_callsThatDidNone() {
    OneGate gate = Rich.gate();
    gate.judge(1, 0);
    gate.perform(0);
    gate.write(1, 0, 999);
    gate.perform(1);
    gate.numbers(3, 1, 5);
    gate.lists(3, 0, 1, 9);
    gate.image(1);
    gate.feed(0, 0, 0, 0, 0);
    gate.send(9, 9);
    gate.rate(0, 10);
    gate.days(0, true);
    gate.start(0, 0, 0);
    gate.year(0, 0);
    gate.undo(9);
    gate.restore(2);
    gate.roads(-1);
    Due.due("five", gate.count(9), 5);
  }

  static void promise16_traysTapeAndImagesStay() {
    OneGate gate = Rich.gate();
    gate.numbers(3, 2, 7);
    gate.image(1);
    gate.undo(5);
    Due.due("tray", gate.write(3, 6, 1), 1);
    Due.due("tape", gate.count(10), 20);
    Due.due("image", gate.restore(1), 0);
    Due.due("as it was", gate.count(7), 29);
  }

  static void promise16_whatIsUndoneCantComeBack() {
    OneGate gate = new OneGate();
    gate.rate(0, 5);
    gate.rate(0, 6);
    gate.undo(1);
    gate.rate(0, 7);
    Due.due("two", gate.count(9), 2);
    gate.undo(1);
    Due.due("rate", gate.town(0, 0), 5);
    gate.undo(1);
    Due.due("rate", gate.town(0, 0), 1);
  }

  // ---- judge

  private static final String LAND = "towns 3;road 0 to 1 days 2 risk 10;road 1 to 2 days 1;road 2 to 0 days 3 sea;"
      + "road 0 to 2 days 1;caravan at 0 to 2 load 100;caravan at 2 to 0 load 40;dues : rate;eats : 1;"
      + "opens : sea = 0 or month > 0;day 29;";

  private static void judged(int place, int why, int loads, int chests, int sort, long... deeds) {
    OneGate gate = Due.told(LAND);
    Due.write(gate, 0, sort, deeds);
    int[] due = {place, why, loads, chests};
    for (int what = 0; what < 4; what++) Due.due("what " + what, gate.judge(0, what), due[what]);
    Due.due("nothing is done", gate.count(9), 0);
  }

  static void promise17_noSuchTray() {
    for (int tray : new int[] {-1, 4, MIN, MAX}) Rich.leavesAll(-2, gate -> gate.judge(tray, 0));
  }

  static void promise17_noSuchWhat() {
    for (int what : new int[] {-1, 4, MIN, MAX}) Rich.leavesAll(-2, gate -> gate.judge(1, what));
  }

  static void promise17_aMissingTray() {
    for (int what = 0; what < 4; what++) Due.due("what " + what, Rich.gate().judge(3, what), -6);
    Rich.leavesAll(-6, gate -> gate.judge(3, 0));
  }

  static void promise17_ofSeveralTheFirstTold() {
    Rich.leavesAll(-2, gate -> gate.judge(3, 4));
  }

  static void promise17_anEmptyTray() {
    judged(-1, 0, 140, 0, 0);
  }

  static void promise17_leavesAll() {
    Rich.leavesAll(2, gate -> gate.judge(1, 0));
    Rich.leavesAll(2, gate -> gate.judge(1, 1));
  }

  static void promise17_fortyDeeds() {
    long[] deeds = new long[40];
    java.util.Arrays.fill(deeds, 119);
    judged(-1, 0, 140, 0, 1, deeds);
    deeds[39] = 201;
    judged(39, 1, 140, 0, 1, deeds);
    deeds[0] = -2;
    judged(0, 1, 140, 0, 1, deeds);
  }

  static void promise17_numbersBelowNone() {
    judged(0, 1, 140, 0, 1, -2);
    judged(0, 1, 140, 0, 0, -128);
    judged(0, 1, 140, 0, 2, MIN);
    judged(0, 1, 140, 0, 3, Long.MIN_VALUE);
  }

  static void promise17_numbersAbove200() {
    judged(0, 1, 140, 0, 1, 201);
    judged(0, 1, 140, 0, 2, MAX);
    judged(0, 1, 140, 0, 3, Long.MAX_VALUE);
  }

  static void promise17_numbersOf64BitsAreWhole() {
    judged(0, 1, 140, 0, 3, (1L << 32) + 200);
    judged(0, 1, 140, 0, 3, 1L << 32);
    judged(0, 1, 140, 0, 3, (1L << 32) - 1);
    judged(-1, 0, 140, 0, 3, -1, 200);
  }

  static void promise17_inEightBits200IsNone() {
    judged(0, 1, 140, 0, 0, 200);
    judged(-1, 0, 140, 0, 0, 127, -1);
    judged(-1, 0, 140, 0, 0, 255);
  }

  static void promise17_aDayWithAndWithoutRobbers() {
    // 100 - 2 eaten, a tenth of 98 robbed, 1 taken; without robbers 97.
    judged(-1, 0, 88 + 40, 1, 1, 0, 200, 200);
    judged(-1, 0, 97 + 40, 1, 1, 0, -1, -1);
    judged(-1, 0, 97 + 40, 1, 1, 0, 200, -1);
    judged(-1, 0, 88 + 40, 1, 1, 0, -1, 200);
  }

  static void promise17_noSuchCaravan() {
    judged(0, 1, 140, 0, 1, 20);
    judged(0, 1, 140, 0, 1, 60);
    judged(0, 1, 140, 0, 1, 99);
    judged(-1, 0, 140, 0, 1, -1, 12);
  }

  static void promise17_noSuchRoad() {
    judged(0, 1, 140, 0, 1, 4);
    judged(0, 1, 140, 0, 1, 9);
    judged(0, 1, 140, 0, 1, 19);
  }

  static void promise17_noSuchTown() {
    judged(-1, 0, 140, 0, 1, 100, 129);
    judged(0, 1, 140, 0, 1, 130);
    judged(0, 1, 140, 0, 1, 199);
  }

  /** Six caravans and ten roads; the tenth and the others lead elsewhere. */
  private static final String MOST = "towns 2;" + "road 1 to 0 days 1;".repeat(9) + ROAD + CARAVAN.repeat(6);

  static void promise17_theLastCaravanAndRoad() {
    OneGate gate = Due.told(MOST);
    Due.write(gate, 0, 1, 59, 49, 39, 58);
    Due.due("that one is on a road", gate.judge(0, 0), 3);
    Due.due("why", gate.judge(0, 1), 2);
    Due.write(gate, 0, 1, 59, 60);
    Due.due("no seventh caravan", gate.judge(0, 0), 1);
    Due.due("why", gate.judge(0, 1), 1);
  }

  static void promise17_theLastTownsRate() {
    OneGate gate = Due.told("towns 6;");
    Due.write(gate, 0, 1, 150, 159, 100, 109, 160);
    Due.due("the seventh's", gate.judge(0, 0), 4);
    Due.due("why", gate.judge(0, 1), 1);
  }

  static void promise17_onARoadOrElsewhere() {
    judged(1, 2, 140, 0, 1, 0, 3);
    judged(0, 2, 140, 0, 1, 1);
    judged(0, 2, 140, 0, 1, 10);
    judged(2, 2, 139, 0, 1, 0, -1, 0);
  }

  static void promise17_notOpenOrOpenADayLater() {
    judged(0, 3, 140, 0, 1, 12);
    judged(-1, 0, 140, 0, 1, -1, 12);
    judged(1, 3, 140, 0, 1, 119, 12);
  }

  static void promise17_theLeastWhy() {
    // No such road of one on a road; elsewhere, and shut.
    judged(1, 1, 140, 0, 1, 0, 4);
    judged(0, 2, 140, 0, 1, 2);
  }

  static void promise17_ratesStrikeBehind() {
    judged(-1, 0, 99 - 9 + 40, 9, 1, 129, 3, -1);
    judged(-1, 0, 99 + 40, 0, 1, 3, 120, -1);
  }

  static void promise17_drawnAlikeEachTime() {
    OneGate gate = Due.told("towns 2;road 0 to 1 days 1 risk 5;" + CARAVAN + "dues : 0;");
    Due.write(gate, 0, 1, 0, 200);
    for (int seed : new int[] {seedOf(4, true), seedOf(5, false)}) {
      gate.seed(seed);
      int due = drawOf(nextX(seed)) % 10 < 5 ? 90 : 100;
      for (int i = 0; i < 3; i++) Due.due("loads", gate.judge(0, 2), due);
      Due.due("x", gate.seed(0), seed);
    }
  }

  // ---- perform

  static void promise18_noSuchTray() {
    for (int tray : new int[] {-1, 4, MIN, MAX}) Rich.leavesAll(-2, gate -> gate.perform(tray));
  }

  static void promise18_aMissingTray() {
    Rich.leavesAll(-6, gate -> gate.perform(3));
  }

  static void promise18_anEmptyTrayIsNoDeed() {
    Rich.leavesAll(0, gate -> gate.perform(0));
  }

  static void promise18_theFirstCantBe() {
    Rich.leavesAll(0, gate -> gate.perform(2), () -> {
      OneGate gate = Rich.gate();
      gate.write(2, 0, 201);
      return gate;
    });
  }

  static void promise18_oneDeed() {
    OneGate gate = Due.told(MOST);
    Due.write(gate, 0, 1, 59);
    Due.due("one", gate.perform(0), 1);
    Due.due("caravan 5 on road 9", gate.caravan(5, 1), 9);
    Due.due("alone", gate.count(4), 32);
    Due.due("a call", gate.count(9), 1);
    Due.due("undone", gate.undo(1), 0);
    Due.due("on no road", gate.count(4), 0);
  }

  static void promise18_theSecondCaravanOnTheFirstRoad() {
    OneGate gate = Due.told("towns 2;" + ROAD + CARAVAN.repeat(2));
    Due.write(gate, 0, 0, 10);
    Due.due("one", gate.perform(0), 1);
    Due.due("it alone", gate.count(4), 2);
    Due.due("its road", gate.caravan(1, 1), 0);
  }

  static void promise18_theLastTownsRate() {
    OneGate gate = Due.told("towns 6;");
    Due.write(gate, 0, 1, 159, 100, 160);
    Due.due("two", gate.perform(0), 2);
    Due.due("the last", gate.town(5, 0), 9);
    Due.due("the first", gate.town(0, 0), 0);
  }

  static void promise18_tillOneCantBe() {
    OneGate gate = Rich.gate();
    Due.due("a day and a rate", gate.perform(1), 2);
    Due.due("day", gate.count(7), 30);
    Due.due("rate", gate.town(1, 0), 9);
    Due.due("one call", gate.count(9), 6);
  }

  static void promise18_whatFollowsIsNotDone() {
    OneGate gate = Due.told(LAND);
    Due.write(gate, 0, 1, 101, 201, -1, 109);
    Due.due("one", gate.perform(0), 1);
    Due.due("no day", gate.count(7), 29);
    Due.due("rate", gate.town(0, 0), 1);
  }

  static void promise18_fortyDeeds() {
    OneGate gate = Due.told("towns 2;");
    gate.numbers(0, 0, 40);
    for (int i = 0; i < 40; i++) gate.write(0, i, -1);
    Due.due("all", gate.perform(0), 40);
    Due.due("day", gate.count(7), 40);
    Due.due("undone as a whole", gate.undo(1), 0);
    Due.due("day", gate.count(7), 0);
  }

  static void promise18_undoneAsAWhole() {
    OneGate asked = Rich.gate();
    asked.perform(1);
    asked.undo(1);
    Rich.sameAs("behind undoing", asked, Rich.gate());
  }

  static void promise18_drawnAndKept() {
    OneGate gate = Due.told(LAND);
    Due.write(gate, 0, 1, 0, 200, 200);
    Due.due("all", gate.perform(0), 3);
    Due.due("robbed", gate.caravan(0, 4), 88);
    Due.due("x", gate.seed(0), 12345);
  }

  static void promise18_theTrayStays() {
    OneGate gate = Due.told(LAND);
    Due.write(gate, 0, 1, 200, 119);
    Due.due("once", gate.perform(0), 2);
    Due.due("again", gate.perform(0), 2);
    Due.due("two days", gate.count(7), 31);
  }

  static void promise18_theEldestIsForgotten() {
    OneGate gate = new OneGate();
    Due.write(gate, 0, 0, -1, -1);
    for (int i = 0; i < 11; i++) gate.perform(0);
    Due.due("ten", gate.count(9), 10);
    gate.undo(10);
    Due.due("the first stays", gate.count(7), 2);
  }

  // ---- year

  static void promise19_timesBelowOne() {
    for (int times : new int[] {0, -1, MIN}) Rich.leavesAll(-3, gate -> gate.year(5, times));
  }

  static void promise19_timesAbove40() {
    for (int times : new int[] {41, MAX}) Rich.leavesAll(-3, gate -> gate.year(5, times));
  }

  static void promise19_noneCouldBe() {
    // The first draw is a caravan's, and there is none of that number.
    int seed = 0;
    while (drawOf(nextX(seed)) % 4 != 2 || drawOf(nextX(nextX(seed))) % 10 < 6) seed++;
    int none = seed;
    Rich.leavesAll(0, gate -> gate.year(none, 1));
    // Likewise a town's.
    seed = 0;
    while (drawOf(nextX(seed)) % 4 != 3 || drawOf(nextX(nextX(seed))) % 10 < 6) seed++;
    int noTown = seed;
    Rich.leavesAll(0, gate -> gate.year(noTown, 1));
  }

  static void promise19_once() {
    int seed = 0;
    while (drawOf(nextX(seed)) % 4 > 1) seed++;
    OneGate gate = new OneGate();
    Due.due("a day", gate.year(seed, 1), 1);
    Due.due("day", gate.count(7), 1);
    Due.due("x", gate.seed(0), nextX(seed));
  }

  /** What a year does on an object without roads and caravans: days, and rates of towns 0 and 1. */
  private static void bareYear(int seed, int times) {
    OneGate gate = new OneGate();
    int x = seed, days = 0, set = 0;
    int[] rates = {1, 1};
    for (int i = 0; i < times; i++) {
      x = nextX(x);
      int kind = drawOf(x) % 4;
      if (kind < 2) {
        days++;
        continue;
      }
      int first = drawOf(x = nextX(x)) % 10;
      int second = drawOf(x = nextX(x)) % 10;
      if (kind == 3 && first < 2) {
        rates[first] = second;
        set++;
      }
    }
    Due.due("year of " + seed, gate.year(seed, times), days + set);
    Due.due("days of " + seed, gate.count(7), days);
    Due.due("rate 0 of " + seed, gate.town(0, 0), rates[0]);
    Due.due("rate 1 of " + seed, gate.town(1, 0), rates[1]);
    Due.due("x of " + seed, gate.seed(0), days + set > 0 ? x : 0);
  }

  static void promise19_fortyTimes() {
    for (int seed = 0; seed < 50; seed++) bareYear(seed, 40);
  }

  static void promise19_drawsWrapAround() {
    for (int seed : new int[] {MIN, MIN + 1, -65536, -1, 65535, MAX - 1, MAX}) bareYear(seed, 40);
  }

  static void promise19_xOfARefusedYearStays() {
    OneGate gate = new OneGate();
    gate.seed(5);
    gate.year(9, 0);
    gate.year(9, 41);
    Due.due("x", gate.seed(0), 5);
  }

  static void promise19_undoneAsAWhole() {
    OneGate asked = Rich.gate();
    Due.due("did some", asked.year(3, 40) > 0 ? 1 : 0, 1);
    Due.due("one call", asked.count(9), 6);
    asked.undo(1);
    Rich.sameAs("behind undoing", asked, Rich.gate());
  }

  static void promise19_daysAreWithRobbers() {
    int seed = 0;
    while (drawOf(nextX(seed)) % 4 > 1) seed++;
    OneGate gate = Due.told("towns 2;road 0 to 1 days 1 risk 10;" + CARAVAN + "dues : 0;");
    gate.send(0, 0);
    Due.due("a day", gate.year(seed, 1), 1);
    Due.due("robbed", gate.caravan(0, 4), 90);
    Due.due("two draws", gate.seed(0), nextX(nextX(seed)));
  }
}
