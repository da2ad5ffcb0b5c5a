/** Promises 36 to 41 at their bounds: a test for each case that the document names. */
public final class TraysEdgesTest {
  private static final int MIN = Integer.MIN_VALUE;
  private static final int MAX = Integer.MAX_VALUE;
  private static final int[] NO_TRAYS = {-1, 4, MIN, MAX};
  private static final int[] NO_TOWNS = {-1, 4, 6, MIN, MAX};
  private static final int[] NO_LOADS = {0, -1, 1000, MIN, MAX};
  private static final int[] NO_IMAGES = {-1, 2, MIN, MAX};
  private static final String ROAD = "road 0 to 1 days 1;";
  private static final String CARAVAN = "caravan at 0 to 1 load 100;";
  private static final String FIVE = "towns 6;road 0 to 1 days 1;road 1 to 2 days 1;road 2 to 3 days 1;"
      + "road 3 to 4 days 1;road 4 to 5 days 1;";

  public static void main(String[] args) {
    Cases.run(TraysEdgesTest.class, 36, 41);
  }

  // ---- numbers

  static void promise36_noSuchTray() {
    for (int tray : NO_TRAYS) Rich.leavesAll(-2, gate -> gate.numbers(tray, 0, 1));
  }

  static void promise36_noSuchSort() {
    for (int sort : new int[] {-1, 4, MIN, MAX}) Rich.leavesAll(-2, gate -> gate.numbers(1, sort, 1));
  }

  static void promise36_nBelowZero() {
    Rich.leavesAll(-3, gate -> gate.numbers(1, 0, -1));
    Rich.leavesAll(-3, gate -> gate.numbers(1, 0, MIN));
  }

  static void promise36_nAbove40() {
    Rich.leavesAll(-3, gate -> gate.numbers(1, 0, 41));
    Rich.leavesAll(-3, gate -> gate.numbers(1, 0, MAX));
  }

  static void promise36_ofSeveralTheFirstTold() {
    Rich.leavesAll(-2, gate -> gate.numbers(4, 0, 41));
    Rich.leavesAll(-2, gate -> gate.numbers(1, 4, -1));
  }

  static void promise36_aMissingTrayStaysMissing() {
    OneGate gate = new OneGate();
    gate.numbers(0, 0, 41);
    gate.numbers(0, 4, 1);
    Due.due("missing", gate.write(0, 0, 1), -6);
  }

  static void promise36_theTrayStays() {
    OneGate gate = new OneGate();
    gate.numbers(0, 3, 40);
    gate.write(0, 39, 5);
    gate.numbers(0, 0, 41);
    gate.numbers(0, 0, -1);
    Due.due("its last place and its sort", gate.write(0, 39, 1L << 40), 1L << 40);
  }

  static void promise36_noNumbers() {
    OneGate gate = new OneGate();
    Due.due("laid out", gate.numbers(0, 0, 0), 0);
    Due.due("not missing", gate.judge(0, 0), -1);
    Due.due("no such number", gate.write(0, 0, 1), -7);
  }

  static void promise36_fortyNumbers() {
    for (int sort = 0; sort < 4; sort++) {
      OneGate gate = new OneGate();
      Due.due("laid out", gate.numbers(3, sort, 40), 0);
      Due.due("the last", gate.write(3, 39, 7), 7);
      Due.due("no more", gate.write(3, 40, 7), -7);
    }
  }

  static void promise36_allZero() {
    // A law that takes all: behind each gate is nothing.
    OneGate gate = Due.told(FIVE + "dues : load;");
    gate.numbers(0, 1, 5);
    Due.due("five of 0", gate.lacks(0, 0, 5, 9), 62);
    for (int i = 0; i < 5; i++) gate.write(0, i, 3);
    Due.due("five of 3", gate.lacks(0, 0, 5, 9), 0);
    gate.numbers(0, 1, 5);
    Due.due("anew of 0", gate.lacks(0, 0, 5, 9), 62);
  }

  static void promise36_inPlaceOfAnotherOne() {
    OneGate gate = new OneGate();
    gate.numbers(0, 3, 40);
    gate.numbers(0, 0, 2);
    Due.due("fewer", gate.write(0, 2, 1), -7);
    Due.due("of another sort", gate.write(0, 1, 128), -128);
    gate.numbers(0, 1, 3);
    Due.due("more", gate.write(0, 2, 128), 128);
  }

  static void promise36_othersStay() {
    OneGate gate = new OneGate();
    gate.numbers(1, 0, 1);
    Due.due("0", gate.write(0, 0, 0), -6);
    Due.due("2", gate.write(2, 0, 0), -6);
    Due.due("3", gate.write(3, 0, 0), -6);
  }

  static void promise36_isNoDeed() {
    OneGate gate = Rich.gate();
    gate.numbers(1, 0, 5);
    Due.due("calls", gate.count(9), 5);
  }

  // ---- write

  static void promise37_noSuchTray() {
    for (int tray : NO_TRAYS) Rich.leavesAll(-2, gate -> gate.write(tray, 0, 1));
  }

  static void promise37_aMissingTray() {
    Rich.leavesAll(-6, gate -> gate.write(3, 0, 1));
  }

  static void promise37_noSuchNumber() {
    for (int i : new int[] {-1, 3, 40, MIN, MAX}) Rich.leavesAll(-7, gate -> gate.write(1, i, 1));
    Rich.leavesAll(-7, gate -> gate.write(0, 0, 1));
  }

  static void promise37_ofSeveralTheFirstTold() {
    Rich.leavesAll(-2, gate -> gate.write(4, 99, 1));
    Rich.leavesAll(-6, gate -> gate.write(3, 99, 1));
  }

  private static void cut(int sort, long v, long due) {
    OneGate gate = new OneGate();
    gate.numbers(0, sort, 1);
    Due.due("sort " + sort + " of " + v, gate.write(0, 0, v), due);
  }

  static void promise37_cutTo8Bits() {
    cut(0, 127, 127);
    cut(0, 128, -128);
    cut(0, 255, -1);
    cut(0, 256, 0);
    cut(0, -128, -128);
    cut(0, -129, 127);
    cut(0, Long.MAX_VALUE, -1);
    cut(0, Long.MIN_VALUE, 0);
  }

  static void promise37_cutTo16Bits() {
    cut(1, 32767, 32767);
    cut(1, 32768, -32768);
    cut(1, 65535, -1);
    cut(1, 65536, 0);
    cut(1, -32768, -32768);
    cut(1, -32769, 32767);
    cut(1, Long.MAX_VALUE, -1);
    cut(1, Long.MIN_VALUE, 0);
  }

  static void promise37_cutTo32Bits() {
    cut(2, MAX, MAX);
    cut(2, MAX + 1L, MIN);
    cut(2, (1L << 32) - 1, -1);
    cut(2, 1L << 32, 0);
    cut(2, MIN, MIN);
    cut(2, MIN - 1L, MAX);
    cut(2, Long.MAX_VALUE, -1);
    cut(2, Long.MIN_VALUE, 0);
  }

  static void promise37_64BitsWhole() {
    for (long v : new long[] {Long.MIN_VALUE, -2, -1, 0, 1L << 32, Long.MAX_VALUE}) cut(3, v, v);
  }

  static void promise37_asItIsThere() {
    OneGate gate = Due.told(FIVE);
    gate.numbers(0, 0, 1);
    gate.write(0, 0, 256 + 90);
    Due.due("90 is there", gate.lacks(0, 0, 1, 100), 2);
    gate.write(0, 0, 255);
    Due.due("NONE is there", gate.lacks(0, 0, 1, 100), 2);
    gate.write(0, 0, 91);
    Due.due("91 is there", gate.lacks(0, 0, 1, 100), 0);
  }

  static void promise37_theOthersStay() {
    OneGate gate = Due.told(FIVE);
    Due.write(gate, 0, 1, -1, 7, -1);
    gate.write(0, 0, -1);
    gate.write(0, 2, -1);
    Due.due("7 is there still", gate.lacks(0, 0, 3, 100), 0);
    gate.write(0, 1, -1);
    Due.due("it was that", gate.lacks(0, 0, 3, 100), 14);
  }

  static void promise37_theFirstAndTheLast() {
    OneGate gate = new OneGate();
    gate.numbers(2, 1, 40);
    Due.due("the first", gate.write(2, 0, 5), 5);
    Due.due("the last", gate.write(2, 39, 6), 6);
    Due.due("behind it", gate.write(2, 40, 7), -7);
    Due.due("ahead", gate.write(2, -1, 7), -7);
  }

  // ---- lists

  static void promise38_noSuchTray() {
    for (int tray : NO_TRAYS) Rich.leavesAll(-2, gate -> gate.lists(tray, 0, 1, 5));
  }

  static void promise38_noSuchTown() {
    for (int t : NO_TOWNS) {
      Rich.leavesAll(-2, gate -> gate.lists(1, t, 1, 5));
      Rich.leavesAll(-2, gate -> gate.lists(1, 0, t, 5));
    }
  }

  static void promise38_aMissingTray() {
    Rich.leavesAll(-6, gate -> gate.lists(3, 0, 1, 5));
  }

  static void promise38_noSuchLoad() {
    for (int load : NO_LOADS) Rich.leavesAll(-3, gate -> gate.lists(1, 0, 1, load));
  }

  static void promise38_noWay() {
    Rich.leavesAll(-5, gate -> gate.lists(1, 0, 3, 5));
  }

  static void promise38_ofSeveralTheFirstTold() {
    Rich.leavesAll(-2, gate -> gate.lists(3, 0, 4, 0));
    Rich.leavesAll(-6, gate -> gate.lists(3, 0, 3, 0));
    Rich.leavesAll(-3, gate -> gate.lists(1, 0, 3, 0));
  }

  static void promise38_toItselfNone() {
    Rich.leavesAll(0, gate -> gate.lists(1, 3, 3, 5));
  }

  static void promise38_anEmptyTray() {
    Rich.leavesAll(0, gate -> gate.lists(0, 0, 1, 5));
  }

  static void promise38_fewerPlacesThanRoads() {
    OneGate gate = Due.told(FIVE);
    Due.write(gate, 0, 1, 0, 0, 0, 0);
    Due.due("four", gate.lists(0, 0, 5, 999), 4);
    // 998 997 996 995: to 4 none kept a tenth, as by the laws.
    Due.due("as by the laws", gate.lacks(0, 0, 4, 999), 0);
    gate.write(0, 3, 995 - 99);
    Due.due("but the fourth", gate.lacks(0, 0, 4, 999), 16);
  }

  static void promise38_morePlacesThanRoads() {
    OneGate gate = Due.told("towns 2;" + ROAD + CARAVAN);
    Due.write(gate, 0, 1, 0, 119);
    Due.due("one", gate.lists(0, 0, 1, 201), 1);
    Due.due("a day, then the rate told", gate.perform(0), 2);
    Due.due("day", gate.count(7), 1);
    Due.due("the second stayed", gate.town(1, 0), 9);
  }

  static void promise38_fortyPlaces() {
    OneGate gate = Due.told(FIVE);
    gate.numbers(0, 2, 40);
    Due.due("five", gate.lists(0, 0, 5, 999), 5);
  }

  static void promise38_cutToTheSort() {
    OneGate gate = Due.told("towns 2;" + ROAD + CARAVAN);
    Due.write(gate, 0, 0, 0);
    Due.due("one", gate.lists(0, 0, 1, 257), 1);
    Due.due("256 is 0 in 8 bits: caravan 0 is sent on road 0", gate.perform(0), 1);
    Due.due("sent", gate.caravan(0, 1), 0);
    Due.write(gate, 0, 1, 0);
    gate.lists(0, 0, 1, 257);
    Due.due("256 in 16 bits", gate.judge(0, 1), 1);
  }

  static void promise38_eatenAlong() {
    OneGate gate = Due.told(FIVE + "eats : 4;");
    Due.write(gate, 0, 1, 0, 0);
    Due.due("two", gate.lists(0, 0, 2, 100), 2);
    gate.write(0, 1, 81);
    Due.due("95, and 90 less a tenth", gate.lacks(0, 0, 2, 100), 4);
  }

  static void promise38_nothingLeft() {
    OneGate gate = Due.told("towns 2;" + ROAD + CARAVAN + "dues : load;");
    Due.write(gate, 0, 1, 119);
    Due.due("one", gate.lists(0, 0, 1, 999), 1);
    Due.due("0: caravan 0 is sent on road 0", gate.perform(0), 1);
    Due.due("sent", gate.caravan(0, 1), 0);
  }

  static void promise38_isNoDeed() {
    OneGate gate = Rich.gate();
    Due.due("one", gate.lists(1, 0, 1, 99), 1);
    Due.due("calls", gate.count(9), 5);
  }

  // ---- image

  static void promise39_noSuchImage() {
    for (int i : NO_IMAGES) Rich.leavesAll(-2, gate -> gate.image(i));
  }

  static void promise39_both() {
    OneGate gate = new OneGate();
    Due.due("the first", gate.image(0), 0);
    Due.due("the other is none", gate.restore(1), -5);
    Due.due("the second", gate.image(1), 0);
    Due.due("there", gate.restore(1), 0);
  }

  static void promise39_inPlaceOfAnotherOne() {
    OneGate gate = new OneGate();
    gate.image(0);
    gate.rate(0, 7);
    Due.due("again", gate.image(0), 0);
    gate.rate(0, 8);
    gate.restore(0);
    Due.due("as it was the second time", gate.town(0, 0), 7);
  }

  static void promise39_undoingStaysAsItIs() {
    OneGate gate = Rich.gate();
    gate.image(1);
    Due.due("calls", gate.count(9), 5);
    Due.due("undone", gate.undo(5), 0);
  }

  static void promise39_whatFollowsIsNotInIt() {
    OneGate gate = Rich.gate();
    gate.image(1);
    gate.days(9, true);
    gate.rate(0, 9);
    gate.start(0, 1, 5);
    Due.tell(gate, "towns 2;");
    gate.restore(1);
    OneGate other = Rich.gate();
    for (int what = 0; what < 9; what++) Due.due("count " + what, gate.count(what), other.count(what));
    Due.due("rate", gate.town(0, 0), 1);
  }

  // ---- restore

  static void promise40_noSuchImage() {
    for (int i : NO_IMAGES) Rich.leavesAll(-2, gate -> gate.restore(i));
  }

  static void promise40_noneWasMade() {
    Rich.leavesAll(-5, gate -> gate.restore(1));
    Due.due("at first", new OneGate().restore(0), -5);
  }

  static void promise40_anImageRefusedIsNone() {
    OneGate gate = new OneGate();
    gate.image(2);
    gate.image(-1);
    Due.due("none", gate.restore(0), -5);
    Due.due("none", gate.restore(1), -5);
  }

  static void promise40_nothingCanBeUndoneBehind() {
    OneGate gate = Rich.gate();
    Due.due("ahead", gate.count(9), 5);
    gate.restore(0);
    Due.due("behind", gate.count(9), 0);
    Due.due("undo", gate.undo(1), -3);
    gate.rate(0, 5);
    Due.due("what follows can be", gate.undo(1), 0);
  }

  static void promise40_allThatIsInIt() {
    OneGate gate = Rich.gate();
    gate.image(1);
    OneGate other = Rich.gate();
    Due.tell(gate, "towns 2;" + ROAD + "day 5;");
    Due.due("restored", gate.restore(1), 0);
    for (int what = 0; what < 9; what++) Due.due("count " + what, gate.count(what), other.count(what));
    Due.due("lines", gate.count(11), other.count(11));
    for (int t = 0; t < 4; t++) {
      for (int what = 0; what < 4; what++) Due.due("town " + t, gate.town(t, what), other.town(t, what));
    }
    for (int r = 0; r < 5; r++) {
      for (int what = 0; what < 5; what++) Due.due("road " + r, gate.road(r, what), other.road(r, what));
      Due.due("eats", gate.eats(r, 99), other.eats(r, 99));
      Due.due("open", gate.open(r, 0), other.open(r, 0));
    }
    for (int c = 0; c < 4; c++) {
      for (int what = 0; what < 5; what++) Due.due("caravan " + c, gate.caravan(c, what), other.caravan(c, what));
    }
    Due.due("dues", gate.dues(1, 99, true), other.dues(1, 99, true));
    Due.due("x", gate.seed(0), other.seed(0));
  }

  static void promise40_traysTapeAndFaultAreNotInIt() {
    OneGate gate = Rich.gate();
    gate.numbers(3, 0, 1);
    gate.feed(0, 0, 0, 0, 0);
    gate.restore(0);
    Due.due("a tray", gate.write(3, 0, 5), 5);
    Due.due("the tape", gate.count(10), 40);
    Due.due("the fault", gate.fault(0), 2);
    Due.due("its place", gate.fault(1), 6);
  }

  static void promise40_manyTimes() {
    OneGate gate = Rich.gate();
    for (int i = 0; i < 3; i++) {
      Due.due("restored", gate.restore(0), 0);
      Due.due("as it was", gate.count(4), 0);
      Due.due("it goes on", gate.send(2, 0), 2);
      gate.days(2, false);
    }
  }

  static void promise40_oneOfTwo() {
    OneGate gate = new OneGate();
    gate.rate(0, 3);
    gate.image(0);
    Due.tell(gate, "towns 6;rate 4 at 5;");
    gate.image(1);
    gate.restore(0);
    Due.due("towns", gate.count(0), 2);
    Due.due("rate", gate.town(0, 0), 3);
    gate.restore(1);
    Due.due("towns", gate.count(0), 6);
    Due.due("rate", gate.town(5, 0), 4);
  }

  static void promise40_ofANewObject() {
    OneGate gate = new OneGate();
    gate.image(0);
    Due.tell(gate, "towns 6;" + ROAD + "dues : 9;");
    gate.restore(0);
    Due.due("towns", gate.count(0), 2);
    Due.due("roads", gate.count(1), 0);
    Due.due("lines", gate.count(11), 0);
    Due.due("no law", gate.dues(0, 99, false), 1);
  }

  // ---- count

  static void promise41_others() {
    for (int what : new int[] {-1, 12, MIN, MAX}) Rich.leavesAll(-1, gate -> gate.count(what));
  }

  static void promise41_leavesAll() {
    int[] due = {4, 5, 4, 0, 4, 0, 0, 29, 0, 5, 20, 15};
    for (int what : new int[] {0, 1, 2, 3, 4, 7, 8, 9, 10, 11}) Rich.leavesAll(due[what], gate -> gate.count(what));
  }

  static void promise41_theMostOfAll() {
    OneGate gate = Due.told("towns 6;" + ROAD.repeat(10) + "caravan at 0 to 1 load 999;".repeat(6) + "day 999;");
    for (int c = 0; c < 6; c++) gate.send(c, 9);
    for (int i = 0; i < 6; i++) gate.rate(1, 9);
    int[] due = {6, 10, 6, 0, 63, 5994, 0, 999, 9, 10, 0, 18};
    for (int what = 0; what < 12; what++) Due.due("count " + what, gate.count(what), due[what]);
    gate.days(1, false);
    Due.due("there", gate.count(3), 63);
    Due.due("on roads", gate.count(4), 0);
    Due.due("loads", gate.count(5), 5994 - 54);
    Due.due("chests", gate.count(6), 54);
    Due.due("day", gate.count(7), 1000);
  }

  static void promise41_chestsOfTheFirstAndTheLastTown() {
    OneGate gate = Due.told("towns 6;road 1 to 0 days 1;road 1 to 5 days 1;caravan at 1 to 0 load 50;"
        + "caravan at 1 to 5 load 50;rate 4 at 0;rate 9 at 5;");
    gate.send(0, 0);
    gate.send(1, 1);
    gate.days(1, false);
    Due.due("both", gate.count(6), 13);
  }

  static void promise41_onRoadsIsNotThere() {
    OneGate gate = Due.told("towns 2;" + ROAD + "caravan at 0 to 0 load 5;");
    Due.due("there", gate.count(3), 1);
    gate.send(0, 0);
    Due.due("not there", gate.count(3), 0);
    Due.due("on a road", gate.count(4), 1);
    gate.days(1, false);
    Due.due("elsewhere", gate.count(3), 0);
    Due.due("on no road", gate.count(4), 0);
  }

  static void promise41_months() {
    int[] days = {0, 29, 30, 359, 360, 389, 390, 719, 720, 999};
    int[] months = {0, 0, 1, 11, 0, 0, 1, 11, 0, 9};
    for (int i = 0; i < days.length; i++) {
      OneGate gate = Due.told("towns 2;day " + days[i] + ";");
      Due.due("day", gate.count(7), days[i]);
      Due.due("month of day " + days[i], gate.count(8), months[i]);
    }
  }

  static void promise41_bytesOnTheTape() {
    OneGate gate = new OneGate();
    for (int n = 0; n <= 900; n += 20) {
      Due.due("bytes", gate.count(10), n);
      gate.feed(0, 0, 0, 0, 0);
    }
    Due.due("no more", gate.count(10), 900);
    gate.roads(5);
    Due.due("empty", gate.count(10), 0);
  }

  static void promise41_callsThatCanBeUndone() {
    OneGate gate = new OneGate();
    for (int i = 0; i <= 12; i++) {
      Due.due("calls", gate.count(9), Math.min(10, i));
      gate.days(1, false);
    }
    gate.undo(7);
    Due.due("three left", gate.count(9), 3);
  }

  static void promise41_linesStayWithAFaultAndDeeds() {
    OneGate gate = Due.told("towns 2;" + ROAD + CARAVAN);
    Due.due("lines", gate.count(11), 3);
    gate.start(0, 1, 5);
    gate.rate(0, 5);
    Due.tell(gate, "towns 2;day 1;day;");
    Due.due("lines", gate.count(11), 3);
  }
}
