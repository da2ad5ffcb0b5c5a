/**
 * The document once more, from its first line to its last: each promise's own sentence in ordinary use, and the
 * sentences of the Terms at every promise on which they bear. Numbers are worked out by hand.
 */
public final class DocumentTest {
  /**
   * One way from 0 to 2, by roads 2 and 3: begun on day 28 it comes to 1 on day 59 (month 1, by sea), is sent on on day
   * 60, when road 3 has just been opened, and comes to 2 on day 62 (month 2, by land). Road 1 is never open.
   * Eaten on road 2: 2 times 1 and 30 times 2; on road 3: 3 times 3. Taken: 55 at 1, 200 at 2.
   */
  private static final String ALONG = "towns 4;road 0 to 3 days 1;road 3 to 2 days 1;"
      + "road 0 to 1 days 32 sea risk 3;road 1 to 2 days 3 risk 5;rate 5 at 1;rate 7 at 2;"
      + "dues : rate * (2 - month) * town + month * 100 - sea * 50;eats : month + sea + road - 2;"
      + "opens : road = 0 or road = 2 or road = 3 and month = 2;day 28;";
  /** Of 150 are left 100 behind the first day; of 100 and of less nothing is eaten, not even less than nothing. */
  private static final String EATS_LOAD = "towns 3;road 0 to 1 days 3;road 1 to 2 days 2;"
      + "eats : load - 100 - road * 20;dues : 0;";
  /** By 2 or by 1 to 3: of 101 are 97 either way, but 100 behind the gate of 2 and 98 behind that of 1. */
  private static final String TIE = "towns 4;road 0 to 2 days 1;road 2 to 3 days 1;road 0 to 1 days 1;"
      + "road 1 to 3 days 1;eats : road * (3 - road);";
  /**
   * Sent on road 1 on day 58, a load of 100 is 94 behind that day and the next one; the gate of 2 takes 23 of it on
   * day 59 (month 1, by sea).
   */
  private static final String BY_SEA = "towns 3;road 0 to 1 days 1;road 1 to 2 days 2 sea;caravan at 1 to 2 load 100;"
      + "caravan at 1 to 2 load 100;rate 3 at 2;dues : town + rate * 2 + month * 10 + sea * 5;"
      + "eats : road + month * 2 + sea * 3 + load - 100;day 58;";
  /** On day 0 caravan 0 comes by a road without robbers, 1 by one on which it is robbed by half of the draws. */
  private static final String HALF_ROBBED = "towns 2;road 0 to 1 days 1;road 0 to 1 days 1 risk 5;"
      + "caravan at 0 to 1 load 100;caravan at 0 to 1 load 99;dues : 0;";

  public static void main(String[] args) {
    Cases.run(DocumentTest.class, 1, 41);
  }

  private static int draw(int x, int times) {
    int now = x;
    for (int i = 0; i < times; i++) now = (int) (1103515245L * now + 12345L);
    return (int) ((now & 0xffffffffL) / 65536);
  }

  /** The first seed whose draws, each modulo the number told, are between the two told: rows of three. */
  private static int seedOf(int... rows) {
    for (int seed = 0; seed < 10_000_000; seed++) {
      boolean fits = true;
      for (int i = 0; i < rows.length && fits; i += 3) {
        int n = draw(seed, i / 3 + 1) % rows[i];
        fits = n >= rows[i + 1] && n <= rows[i + 2];
      }
      if (fits) return seed;
    }
    Due.due("a seed", 0, 1);
    return 0;
  }

  private static OneGate along(int load) {
    return Due.told(ALONG + "caravan at 0 to 2 load " + load + ";");
  }

  /** Number i of a tray, which has as many numbers as there are roads; the text and the other numbers are lost. */
  private static void holds(OneGate gate, int tray, int size, int i, int number) {
    StringBuilder row = new StringBuilder("towns 6;dues : 0;");
    for (int k = 0; k < size; k++) row.append("road ").append(k).append(" to ").append(k + 1).append(" days 1;");
    Due.tell(gate, row.toString());
    for (int k = 0; k < size; k++) if (k != i) gate.write(tray, k, -1);
    // A load that is that number behind a gate that kept a tenth: one of the gates up to i.
    int load = number;
    while (load - load / 10 < number) load++;
    Due.due("number " + i + " is " + number, gate.lacks(tray, 0, size, load), (1 << i + 2) - 2);
  }

  // ---- the roads

  static void promise01_twoTownsNoRoadsNoCaravans() {
    OneGate gate = new OneGate();
    int[] counts = {2, 0, 0, 0, 0, 0, 0, 0, 0, 0, 0, 0};
    for (int what = 0; what < counts.length; what++) Due.due("count " + what, gate.count(what), counts[what]);
  }

  static void promise02_twentyBytesTheHighestFirst() {
    OneGate gate = new OneGate();
    Due.due("towns 5", gate.feed(0x746f776e, 0x7320353b, 0x64617920, 0x3132333b, 0x64617920), 20);
    Due.due("behind them", gate.feed(0x3435363b, 0x20202020, 0x20202020, 0x20202020, 0x20202020), 40);
    Due.due("lines", gate.roads(24), 3);
    Due.due("towns", gate.count(0), 5);
    Due.due("day", gate.count(7), 456);
  }

  static void promise03_chestsOfAllTownsAreEmpty() {
    OneGate gate = Due.told("towns 3;road 0 to 1 days 1;road 1 to 2 days 1;road 2 to 0 days 1;caravan at 0 to 1 load 9;"
        + "caravan at 1 to 2 load 9;caravan at 2 to 0 load 9;");
    for (int c = 0; c < 3; c++) gate.send(c, c);
    gate.days(1, false);
    for (int t = 0; t < 3; t++) Due.due("chest", gate.town(t, 1), 1);
    Due.due("a text", Due.tell(gate, "towns 3;"), 1);
    for (int t = 0; t < 3; t++) Due.due("empty", gate.town(t, 1), 0);
    Due.due("together", gate.count(6), 0);
  }

  static void promise03_withAFaultCallsCanStillBeUndone() {
    OneGate gate = new OneGate();
    gate.rate(0, 5);
    gate.seed(8);
    Due.due("a fault", Due.tell(gate, "towns 2"), -32);
    Due.due("two calls", gate.count(9), 2);
    Due.due("undone", gate.undo(2), 0);
    Due.due("the rate", gate.town(0, 0), 1);
  }

  static void promise03_sumsTermsAndAtoms() {
    Due.good("towns 2;dues : 1 + 2 * (3 - town) * rate - load + month * sea;", 2);
    Due.good("towns 2;eats : (road + load) * (month - sea);", 2);
    Due.good("towns 2;opens : not [road = 1 or month * 2 > 3 + sea] and 1 < 2 or not not (1) = 1;", 2);
    Due.badAt("towns 2;dues : 1 ^= 1;", 2);
    Due.badAt("towns 2;opens : 1 = 1 ^= 1;", 2);
    Due.badAt("towns 2;opens : (1 ^= 1);", 2);
    Due.badAt("towns 2;opens : [1 = 1] ^= 1;", 2);
    Due.badAt("towns 2;dues : ^not 1;", 2);
    Due.badAt("towns 2;dues : ^- 1;", 2);
    Due.badAt("towns 2;dues : 1 + ^* 1;", 2);
    Due.badAt("towns 2;dues : 1 ^2;", 2);
  }

  static void promise04_theFaultOfTheLatestThatWasRead() {
    OneGate gate = new OneGate();
    Due.tell(gate, "towns 2;day 10000;");
    Due.due("fault", gate.fault(0), 1);
    Due.due("place", gate.fault(1), 12);
    Due.tell(gate, "towns 2;day 1;");
    Due.due("none", gate.fault(0), 0);
    Due.due("no place", gate.fault(1), -1);
  }

  static void promise05_ofATown() {
    OneGate gate = Due.told("towns 3;road 1 to 0 days 1;road 0 to 1 days 1;road 1 to 2 days 1;caravan at 0 to 2 load 50;"
        + "caravan at 1 to 0 load 60;caravan at 0 to 1 load 70;rate 4 at 1;");
    Due.due("rate", gate.town(1, 0), 4);
    Due.due("roads", gate.town(1, 2), 1 + 4);
    Due.due("caravans", gate.town(0, 3), 1 + 4);
    gate.send(2, 1);
    gate.days(1, false);
    Due.due("chest", gate.town(1, 1), 4);
    Due.due("caravans there", gate.town(1, 3), 2 + 4);
    Due.due("caravans left", gate.town(0, 3), 1);
  }

  static void promise06_ofARoad() {
    OneGate gate = Due.told("towns 4;road 1 to 0 days 2;road 3 to 2 days 17 sea risk 6;");
    int[] due = {3, 2, 17, 6, 1};
    for (int what = 0; what < 5; what++) Due.due("what " + what, gate.road(1, what), due[what]);
  }

  static void promise07_ofACaravan() {
    OneGate gate = Due.told("towns 3;road 0 to 1 days 1;road 2 to 1 days 5;caravan at 0 to 1 load 7;"
        + "caravan at 2 to 0 load 80;eats : 3;");
    int[] in = {2, -1, 0, 0, 80};
    for (int what = 0; what < 5; what++) Due.due("in a town, " + what, gate.caravan(1, what), in[what]);
    gate.send(1, 1);
    gate.days(2, false);
    int[] on = {-1, 1, 3, 0, 74};
    for (int what = 0; what < 5; what++) Due.due("on a road, " + what, gate.caravan(1, what), on[what]);
    gate.days(3, false);
    int[] there = {1, -1, 0, 0, 64};
    for (int what = 0; what < 5; what++) Due.due("behind it, " + what, gate.caravan(1, what), there[what]);
  }

  static void promise08_whatAGateTakes() {
    OneGate gate = Due.told("towns 4;rate 3 at 2;dues : town * 100 + rate * 10 + month * 2 + sea + load - 500;day 95;");
    Due.due("by sea", gate.dues(2, 500, true), 200 + 30 + 6 + 1);
    Due.due("by land", gate.dues(3, 400, false), 300 + 10 + 6 - 100);
    Due.due("not less than nothing", gate.dues(0, 100, true), 0);
    gate.days(25, false);
    Due.due("in month 4", gate.dues(2, 500, true), 200 + 30 + 8 + 1);
  }

  static void promise09_whatIsEaten() {
    OneGate gate = Due.told("towns 2;road 0 to 1 days 1;road 1 to 0 days 1 sea;"
        + "eats : road * 100 + month * 20 + sea * 7 + load - 300;day 60;");
    Due.due("by sea", gate.eats(1, 300), 100 + 40 + 7);
    Due.due("by land", gate.eats(0, 320), 40 + 20);
    Due.due("not less than nothing", gate.eats(0, 100), 0);
  }

  static void promise10_whetherARoadIsOpen() {
    OneGate gate = Due.told("towns 2;road 0 to 1 days 1;road 1 to 0 days 1 sea;"
        + "opens : month > 2 and month < 5 or sea = 1 and road = 1 and month = 0;day 80;");
    int[] land = {0, 0, 1, 1, 0};
    int[] days = {0, 9, 10, 69, 70};
    for (int i = 0; i < 5; i++) Due.due("by land in " + days[i], gate.open(0, days[i]), land[i]);
    Due.due("by sea in 279", gate.open(1, 279), 0);
    Due.due("by sea in 280", gate.open(1, 280), 1);
    Due.due("by land in 280", gate.open(0, 280), 0);
  }

  static void promise10_productsAheadOfSumsFromLeftToRight() {
    Due.due("products", Due.told("towns 2;road 0 to 1 days 1;opens : 2 + 3 * 4 = 14;").open(0, 0), 1);
    Due.due("brackets", Due.told("towns 2;road 0 to 1 days 1;opens : (2 + 3) * 4 = 20;").open(0, 0), 1);
    Due.due("left to right", Due.told("towns 2;road 0 to 1 days 1;opens : 9 - 3 - 2 = 4;").open(0, 0), 1);
  }

  // ---- deeds

  static void promise11_xIsThis() {
    OneGate gate = new OneGate();
    Due.due("at first", gate.seed(42), 0);
    Due.due("told", gate.seed(-7), 42);
    Due.due("told again", gate.seed(0), -7);
  }

  static void promise12_itsNumber() {
    OneGate gate = Due.told("towns 3;caravan at 0 to 1 load 5;");
    Due.due("started", gate.start(2, 1, 77), 1);
    int[] due = {2, -1, 0, 1, 77};
    for (int what = 0; what < 5; what++) Due.due("what " + what, gate.caravan(1, what), due[what]);
    Due.due("the next", gate.start(1, 1, 8), 2);
  }

  static void promise13_sentDaysAhead() {
    OneGate gate = Due.told("towns 2;road 1 to 0 days 3;road 0 to 1 days 6;caravan at 0 to 1 load 5;");
    Due.due("days", gate.send(0, 1), 6);
    Due.due("on it", gate.caravan(0, 1), 1);
    Due.due("no day is gone", gate.count(7), 0);
  }

  static void promise13_theGateTakesByTheRateOfTheDay() {
    OneGate gate = Due.told("towns 2;road 0 to 1 days 2;caravan at 0 to 1 load 50;rate 3 at 1;");
    gate.send(0, 0);
    gate.rate(1, 8);
    gate.days(2, false);
    Due.due("chest", gate.town(1, 1), 8);
  }

  static void promise14_whatItWas() {
    OneGate gate = Due.told("towns 3;rate 6 at 1;");
    Due.due("was", gate.rate(1, 2), 6);
    Due.due("is", gate.town(1, 0), 2);
    Due.due("of another one", gate.rate(2, 0), 1);
  }

  static void promise15_eatenThenTakenByTheLaws() {
    OneGate gate = Due.told(BY_SEA);
    gate.send(0, 1);
    gate.send(1, 1);
    Due.due("on the first day", gate.days(1, false), 0);
    Due.due("eaten", gate.caravan(0, 4), 94);
    Due.due("on the second", gate.days(1, false), 2);
    for (int c = 0; c < 2; c++) Due.due("taken", gate.caravan(c, 4), 71);
    Due.due("chest", gate.town(2, 1), 46);
    Due.due("day", gate.count(7), 60);
  }

  static void promise15_withoutRobbersOnARoadNothingIsDrawn() {
    OneGate gate = Due.told(HALF_ROBBED);
    gate.seed(seedOf(10, 0, 4, 10, 5, 9));
    gate.send(0, 0);
    gate.send(1, 1);
    Due.due("both", gate.days(1, true), 2);
    Due.due("not robbed", gate.caravan(0, 4), 100);
    Due.due("robbed by the first draw", gate.caravan(1, 4), 90);
  }

  static void promise16_undoneEachAsAWhole() {
    OneGate gate = Due.told(BY_SEA);
    gate.send(0, 1);
    gate.days(2, true);
    gate.rate(2, 9);
    Due.due("one", gate.undo(1), 2);
    Due.due("the rate", gate.town(2, 0), 3);
    Due.due("both", gate.undo(2), 0);
    Due.due("in its town", gate.caravan(0, 0), 1);
    Due.due("its load", gate.caravan(0, 4), 100);
    Due.due("the chest", gate.count(6), 0);
    Due.due("the day", gate.count(7), 58);
  }

  static void promise17_judgedAsIfDone() {
    OneGate gate = Due.told(BY_SEA);
    Due.write(gate, 0, 1, 1, 11, -1, -1, 10);
    Due.due("place", gate.judge(0, 0), 4);
    Due.due("why", gate.judge(0, 1), 2);
    Due.due("loads", gate.judge(0, 2), 142);
    Due.due("chests", gate.judge(0, 3), 46);
    Due.due("none was done", gate.count(7), 58);
  }

  static void promise17_nothingBehindTheFirstThatCantBe() {
    OneGate gate = Due.told(BY_SEA);
    Due.write(gate, 0, 1, 1, -1, 0, -1, -1);
    Due.due("place", gate.judge(0, 0), 2);
    Due.due("loads", gate.judge(0, 2), 194);
    Due.due("chests", gate.judge(0, 3), 0);
  }

  static void promise17_withoutRobbersOnARoadNothingIsDrawn() {
    OneGate gate = Due.told(HALF_ROBBED);
    gate.seed(seedOf(10, 0, 4, 10, 5, 9));
    Due.write(gate, 0, 1, 0, 11, 200);
    Due.due("robbed by the first draw", gate.judge(0, 2), 190);
  }

  static void promise18_doneByTheLaws() {
    OneGate gate = Due.told(BY_SEA);
    Due.write(gate, 0, 1, 1, 11, -1, -1, 10, -1);
    Due.due("four", gate.perform(0), 4);
    Due.due("loads", gate.count(5), 142);
    Due.due("chests", gate.count(6), 46);
    Due.due("chest of 2", gate.town(2, 1), 46);
    Due.due("day", gate.count(7), 60);
  }

  static void promise18_noneIsADayWithoutRobbers() {
    OneGate gate = Due.told("towns 2;road 0 to 1 days 1 risk 10;caravan at 0 to 1 load 99;dues : 0;");
    Due.write(gate, 0, 1, 0, -1);
    Due.due("both", gate.perform(0), 2);
    Due.due("not robbed", gate.caravan(0, 4), 99);
    Due.due("nothing drawn", gate.seed(0), 0);
  }

  static void promise18_withoutRobbersOnARoadNothingIsDrawn() {
    OneGate gate = Due.told(HALF_ROBBED);
    gate.seed(seedOf(10, 0, 4, 10, 5, 9));
    Due.write(gate, 0, 1, 0, 11, 200);
    Due.due("all", gate.perform(0), 3);
    Due.due("not robbed", gate.caravan(0, 4), 100);
    Due.due("robbed by the first draw", gate.caravan(1, 4), 90);
  }

  static void promise18_aRoadThatIsShut() {
    OneGate gate = Due.told("towns 2;road 0 to 1 days 1;caravan at 0 to 1 load 99;opens : month = 1;day 29;");
    Due.write(gate, 0, 1, 0, -1);
    Due.due("none", gate.perform(0), 0);
    Due.write(gate, 0, 1, -1, 0);
    Due.due("a day later", gate.perform(0), 2);
  }

  static void promise19_twoDaysByTheLaws() {
    OneGate gate = Due.told(BY_SEA);
    gate.send(0, 1);
    gate.send(1, 1);
    Due.due("two days", gate.year(seedOf(4, 0, 1, 4, 0, 1), 2), 2);
    Due.due("loads", gate.count(5), 142);
    Due.due("chests", gate.count(6), 46);
    Due.due("chest of 2", gate.town(2, 1), 46);
    Due.due("day", gate.count(7), 60);
  }

  static void promise19_aDayDrawsBehindWhatWasDrawnForIt() {
    OneGate gate = Due.told(HALF_ROBBED);
    gate.send(0, 0);
    gate.send(1, 1);
    Due.due("a day", gate.year(seedOf(4, 0, 1, 10, 0, 4, 10, 5, 9), 1), 1);
    Due.due("not robbed", gate.caravan(0, 4), 100);
    Due.due("robbed by the next draw", gate.caravan(1, 4), 90);
  }

  static void promise19_aCaravanIsSent() {
    OneGate gate = Due.told(BY_SEA);
    Due.due("caravan 1 on road 1", gate.year(seedOf(4, 2, 2, 10, 1, 1, 10, 1, 1), 1), 1);
    Due.due("on it", gate.count(4), 2);
    Due.due("the road", gate.caravan(1, 1), 1);
  }

  static void promise19_aRateIsSet() {
    OneGate gate = Due.told(BY_SEA);
    Due.due("town 1, 8", gate.year(seedOf(4, 3, 3, 10, 1, 1, 10, 8, 8), 1), 1);
    Due.due("rate", gate.town(1, 0), 8);
  }

  static void promise19_whatCantBeIsDrawnAllTheSame() {
    OneGate gate = Due.told("towns 2;road 1 to 0 days 1;road 0 to 1 days 1;caravan at 0 to 1 load 9;"
        + "opens : road = 0 or month > 0;");
    Due.due("begins elsewhere", gate.year(seedOf(4, 2, 2, 10, 0, 0, 10, 0, 0), 1), 0);
    Due.due("isn't open", gate.year(seedOf(4, 2, 2, 10, 0, 0, 10, 1, 1), 1), 0);
    Due.due("no such road", gate.year(seedOf(4, 2, 2, 10, 0, 0, 10, 2, 9), 1), 0);
    int seed = seedOf(4, 2, 2, 10, 0, 0, 10, 0, 0, 4, 3, 3, 10, 1, 1, 10, 7, 7);
    Due.due("and a rate behind", gate.year(seed, 2), 1);
    Due.due("rate", gate.town(1, 0), 7);
  }

  // ---- ways

  static void promise20_ofAllThatAreOpen() {
    Due.due("one", Due.told(ALONG).ways(0, 2), 1);
    Due.due("to 1", Due.told(ALONG).ways(0, 1), 1);
    Due.due("from 3", Due.told(ALONG).ways(3, 2), 0);
    Due.due("two", Due.told(TIE).ways(0, 3), 2);
  }

  static void promise21_begunInSoManyDays() {
    OneGate gate = Due.told(ALONG);
    Due.due("today", gate.reach(0, 0), 15);
    Due.due("in 29 days", gate.reach(0, 29), 15);
    Due.due("in 30, road 3 is shut again", gate.reach(0, 30), 11);
    Due.due("from 1 today", gate.reach(1, 0), 2);
    Due.due("from 1 in 32", gate.reach(1, 32), 6);
  }

  static void promise22_monthsSeaAndRoadsAlong() {
    OneGate gate = Due.told(ALONG);
    Due.due("arrives", gate.best(0, 2, 900, 0), 900 - 62 - 55 - 9 - 200);
    Due.due("days", gate.best(0, 2, 900, 1), 35);
    int[] roads = {2, 3, -1, -1, -1};
    for (int k = 0; k < 5; k++) Due.due("road " + k, gate.best(0, 2, 900, 10 + k), roads[k]);
  }

  static void promise22_eatenOfWhatIsLeft() {
    Due.due("arrives", Due.told(EATS_LOAD).best(0, 2, 150, 0), 100);
    Due.due("all is eaten", Due.told("towns 2;road 0 to 1 days 2;eats : load + 1;").best(0, 1, 9, 0), 0);
  }

  static void promise22_ofEqualsTheFirst() {
    OneGate gate = Due.told(TIE);
    Due.due("arrives", gate.best(0, 3, 101, 0), 97);
    Due.due("first road", gate.best(0, 3, 101, 10), 0);
    Due.due("second road", gate.best(0, 3, 101, 11), 1);
  }

  static void promise23_monthsSeaAndRoadsAlong() {
    OneGate gate = Due.told(ALONG);
    int[] taken = {0, 55, 200, 0};
    for (int t = 0; t < 4; t++) Due.due("by " + t, gate.takes(0, 2, 900, t), taken[t]);
    Due.due("all that is left at 1", gate.takes(0, 2, 112, 1), 50);
    Due.due("all that is left at 2", gate.takes(0, 2, 200, 2), 200 - 62 - 55 - 9);
  }

  static void promise23_eatenOfWhatIsLeft() {
    OneGate gate = Due.told(EATS_LOAD + "dues : load - 90 + town * 4;");
    Due.due("of 100", gate.takes(0, 2, 150, 1), 14);
    Due.due("of 86", gate.takes(0, 2, 150, 2), 4);
  }

  static void promise23_ofEqualsTheFirst() {
    Due.due("by 2", Due.told(TIE).takes(0, 3, 101, 2), 1);
    Due.due("not by 1", Due.told(TIE).takes(0, 3, 101, 1), 0);
  }

  static void promise24_openWhenItArrives() {
    OneGate gate = Due.told(ALONG);
    Due.due("days", gate.soonest(0, 2, 0), 35);
    Due.due("first road", gate.soonest(0, 2, 10), 2);
    Due.due("second road", gate.soonest(0, 2, 11), 3);
    Due.due("no third", gate.soonest(0, 2, 12), -1);
  }

  static void promise24_theFewestDays() {
    OneGate gate = Due.told("towns 3;road 0 to 2 days 7;road 0 to 1 days 3;road 1 to 2 days 3;road 0 to 2 days 8;");
    Due.due("days", gate.soonest(0, 2, 0), 6);
    Due.due("first road", gate.soonest(0, 2, 10), 1);
    Due.due("second road", gate.soonest(0, 2, 11), 2);
  }

  static void promise25_openWhenItArrives() {
    OneGate gate = Due.told(ALONG);
    Due.due("7 in 10 by 5 in 10: above", gate.safest(0, 2, 0), 7);
    Due.due("below", gate.safest(0, 2, 1), 20);
    Due.due("first road", gate.safest(0, 2, 10), 2);
    Due.due("second road", gate.safest(0, 2, 11), 3);
  }

  static void promise25_eachByItself() {
    OneGate gate = Due.told("towns 3;road 0 to 2 days 1 risk 4;road 0 to 1 days 9 risk 2;road 1 to 2 days 9 risk 2;");
    Due.due("64 in 100 are more than 6 in 10: above", gate.safest(0, 2, 0), 16);
    Due.due("below", gate.safest(0, 2, 1), 25);
    Due.due("first road", gate.safest(0, 2, 10), 1);
  }

  static void promise26_openWhenItArrives() {
    Due.due("both", Due.told(ALONG).needed(0, 2), 4 + 8);
    Due.due("neither", Due.told(TIE).needed(0, 3), 0);
    Due.due("none anyhow", Due.told(ALONG).needed(3, 2), 0);
  }

  static void promise27_openWhenItArrives() {
    Due.due("today", Due.told(ALONG).leave(0, 2, 900), 0);
    Due.due("ten days ahead of it", Due.told(ALONG + "day 18;").leave(0, 2, 900), 10);
  }

  static void promise27_eatenByEachDaysMonth() {
    // Only month 1, by sea, on road 1: from day 60 on the road's days are behind it.
    String text = "towns 2;road 1 to 0 days 1;road 0 to 1 days 40 sea;eats : month * (2 - month) * sea * road;day 25;";
    Due.due("behind month 1", Due.told(text).leave(0, 1, 900), 35);
  }

  static void promise27_takenByTheDayAsItIs() {
    String text = "towns 2;road 0 to 1 days 1 sea;rate 0 at 0;rate 3 at 1;"
        + "dues : month * (2 - month) * sea * town * rate;day 35;";
    Due.due("on day 60", Due.told(text).leave(0, 1, 900), 25);
  }

  static void promise27_eatenOfWhatIsLeft() {
    // In month 0 by road 0 all but 100 is eaten on the first day, nothing behind; from then on by road 1 ten each day.
    String text = "towns 2;road 0 to 1 days 5;road 0 to 1 days 5;eats : (1 - road) * (load - 100) + road * 10;dues : 0;"
        + "opens : road = 0 and month = 0 or road = 1 and month > 0;day 20;";
    Due.due("of 120 are 100, or 70", Due.told(text).leave(0, 1, 120), 0);
    Due.due("of 999 are 100, or 949", Due.told(text).leave(0, 1, 999), 10);
  }

  // ---- rates

  static void promise28_monthsSeaAndRoadsAlong() {
    OneGate gate = along(900);
    int[] due = {0, 55, 200, 0};
    for (int t = 0; t < 4; t++) Due.due("of " + t, gate.income(t), due[t]);
    Due.due("all that is left", along(112).income(1), 50);
  }

  static void promise28_eatenOfWhatIsLeft() {
    OneGate gate = Due.told(EATS_LOAD + "caravan at 0 to 2 load 150;dues : load - 90 + town * 4;");
    Due.due("of 100", gate.income(1), 14);
    Due.due("of 86", gate.income(2), 4);
  }

  static void promise28_ofEqualsTheFirst() {
    OneGate gate = Due.told(TIE + "caravan at 0 to 3 load 101;");
    Due.due("by 2", gate.income(2), 1);
    Due.due("not by 1", gate.income(1), 0);
  }

  static void promise29_monthsSeaAndRoadsAlong() {
    Due.due("arrives", along(900).arrives(), 574);
    Due.due("nothing is left", along(60).arrives(), 0);
  }

  static void promise29_eatenOfWhatIsLeft() {
    Due.due("of two", Due.told(EATS_LOAD + "caravan at 0 to 2 load 150;caravan at 1 to 2 load 130;").arrives(), 220);
    Due.due("all is eaten", Due.told("towns 2;road 0 to 1 days 2;caravan at 0 to 1 load 9;eats : load + 1;").arrives(), 0);
  }

  static void promise30_monthsSeaAndRoadsAlong() {
    // Of 117 are left 55 at the gate of 1, which takes 50 and the rate; nothing comes to 2.
    Due.due("of 1", along(117).bestRate(1), 5);
    Due.due("of 2", along(117).bestRate(2), 0);
    Due.due("with more", along(900).bestRate(1), 9);
  }

  static void promise30_eatenOfWhatIsLeft() {
    // On day 29 all but 5 is eaten, on day 30 nothing (not one less than nothing).
    String text = "towns 2;road 0 to 1 days 2;caravan at 0 to 1 load 50;eats : load - 5 - month;day 29;";
    Due.due("all that is left", Due.told(text).bestRate(1), 5);
  }

  static void promise31_monthsSeaAndRoadsAlong() {
    OneGate gate = along(117);
    Due.due("none", gate.tempted(), 0);
    gate.rate(1, 4);
    Due.due("1", gate.tempted(), 2);
  }

  static void promise31_eatenOfWhatIsLeft() {
    String text = "towns 2;road 0 to 1 days 2;caravan at 0 to 1 load 50;eats : load - 5 - month;day 29;rate ";
    Due.due("by 5", Due.told(text + "5 at 1;").tempted(), 0);
    Due.due("by 4", Due.told(text + "4 at 1;").tempted(), 2);
  }

  static void promise32_monthsSeaAndRoadsAlong() {
    Due.due("200 of 2", along(900).grasping(), 2);
    Due.due("by month", Due.told(ALONG + "caravan at 0 to 2 load 900;"
        + "dues : (2 - month) * 120 + (town - 1) * 100;").grasping(), 1);
    Due.due("by sea", Due.told(ALONG + "caravan at 0 to 2 load 900;dues : sea * 120 + (town - 1) * 100;").grasping(), 1);
    Due.due("by town", Due.told(ALONG + "caravan at 0 to 2 load 900;dues : (town - 1) * 100 + 60;").grasping(), 2);
    Due.due("by rate", Due.told(ALONG + "caravan at 0 to 2 load 900;dues : rate * 12;").grasping(), 2);
    Due.due("the last one is eaten", Due.told(ALONG + "caravan at 0 to 2 load 71;dues : 2 - town;").grasping(), -1);
    Due.due("one more isn't", Due.told(ALONG + "caravan at 0 to 2 load 72;dues : 2 - town;").grasping(), 1);
  }

  static void promise32_eatenOfWhatIsLeft() {
    OneGate gate = Due.told("towns 2;road 0 to 1 days 2;caravan at 0 to 1 load 50;eats : load - 5;dues : 2;");
    Due.due("2 of 5", gate.grasping(), 1);
  }

  // ---- short loads

  private static void seen(String text, int to, int load, int towns, int place, long... weighed) {
    OneGate gate = Due.told(text);
    Due.write(gate, 0, 1, weighed);
    Due.due("lacks", gate.lacks(0, 0, to, load), towns);
    Due.due("weigh", gate.weigh(0, 0, to, load), place);
  }

  static void promise33_monthsSeaAndRoadsAlong() {
    seen(ALONG, 2, 900, 2, 0, 705, 496);
    seen(ALONG, 2, 900, 4, 0, 783, 517);
    seen(ALONG, 2, 900, 0, -1, 783, 574);
    seen(ALONG, 2, 900, 2 + 4, 0, -1, -1);
  }

  static void promise33_eatenOfWhatIsLeft() {
    seen(EATS_LOAD, 2, 150, 2, 0, 90, 90);
    seen(EATS_LOAD, 2, 150, 4, 0, 100, 90);
    seen("towns 2;road 0 to 1 days 2;eats : load + 1;", 1, 9, 2, 0, 0);
  }

  static void promise33_ofEqualsTheFirst() {
    seen(TIE, 3, 101, 4 + 8, 0, -1, -1);
    seen(TIE, 3, 101, 4, 0, 90, 87);
  }

  static void promise33_noWayAheadOfTheNumbers() {
    OneGate gate = Due.told(ALONG);
    gate.numbers(0, 1, 40);
    Due.due("lacks", gate.lacks(0, 3, 2, 5), -5);
    Due.due("weigh", gate.weigh(0, 3, 2, 5), -5);
  }

  static void promise34_monthsSeaAndRoadsAlong() {
    OneGate gate = Due.told(ALONG);
    Due.write(gate, 0, 1, 705, 496);
    Due.due("weigh", gate.weigh(0, 0, 2, 900), 0);
  }

  static void promise34_eatenOfWhatIsLeft() {
    OneGate gate = Due.told(EATS_LOAD);
    Due.write(gate, 0, 1, 100, 90);
    Due.due("weigh", gate.weigh(0, 0, 2, 150), 0);
    OneGate bare = Due.told("towns 2;road 0 to 1 days 2;eats : load + 1;");
    Due.write(bare, 0, 1, 0);
    Due.due("all is eaten", bare.weigh(0, 0, 1, 9), 0);
  }

  static void promise34_ofEqualsTheFirst() {
    OneGate gate = Due.told(TIE);
    Due.write(gate, 0, 1, 90, -1);
    Due.due("weigh", gate.weigh(0, 0, 3, 101), 0);
  }

  static void promise34_whereFewestAreAlike() {
    // Behind the gates of 1 to 4 by keeper: 90 89 88 87, 99 89 88 87, 99 98 88 87, 99 98 97 87.
    OneGate gate = Due.told("towns 5;road 0 to 1 days 1;road 1 to 2 days 1;road 2 to 3 days 1;road 3 to 4 days 1;");
    Due.write(gate, 0, 1, -1, -1, -1, -1);
    Due.due("three alike, two and two, three, four", gate.weigh(0, 0, 4, 100), 1);
    Due.write(gate, 0, 1, 99, -1, -1, -1);
    Due.due("three, two, two, three", gate.weigh(0, 0, 4, 100), 1);
    Due.write(gate, 0, 1, 99, 98, -1, -1);
    Due.due("two, two, one, two", gate.weigh(0, 0, 4, 100), 2);
  }

  static void promise35_monthsSeaAndRoadsAlong() {
    Due.due("by 1", Due.told(ALONG).worst(0, 2, 900), 496);
  }

  static void promise35_eatenOfWhatIsLeft() {
    Due.due("by either", Due.told(EATS_LOAD).worst(0, 2, 150), 90);
    Due.due("all is eaten", Due.told("towns 2;road 0 to 1 days 2;eats : load + 1;").worst(0, 1, 9), 0);
  }

  static void promise35_ofEqualsTheFirst() {
    Due.due("by 2", Due.told(TIE).worst(0, 3, 101), 87);
  }

  // ---- trays, images

  static void promise36_allZeroInPlaceOfAnotherOne() {
    OneGate gate = Due.told("towns 2;road 0 to 1 days 1;caravan at 0 to 1 load 9;");
    Due.write(gate, 2, 0, 7, 8, 9);
    Due.due("laid out", gate.numbers(2, 3, 2), 0);
    Due.due("0 sends caravan 0, then it is on a road", gate.judge(2, 0), 1);
    Due.due("why", gate.judge(2, 1), 2);
    Due.due("two alone", gate.write(2, 2, 1), -7);
    Due.due("of 64 bits", gate.write(2, 1, 1L << 50), 1L << 50);
  }

  static void promise37_cutToItsSort() {
    OneGate gate = new OneGate();
    long[] due = {-33, -8481, -559030561, 0x1234deaddeaddedfL};
    long[] wrote = {0xdf, 0xdedf, 0xdeaddedfL, 0x1234deaddeaddedfL};
    for (int sort = 0; sort < 4; sort++) {
      gate.numbers(1, sort, 2);
      Due.due("sort " + sort, gate.write(1, 1, wrote[sort]), due[sort]);
      Due.due("more than that", gate.write(1, 0, wrote[3]), due[sort]);
    }
  }

  static void promise38_monthsSeaAndRoadsAlong() {
    int[] due = {783, 574};
    for (int i = 0; i < 2; i++) {
      OneGate gate = Due.told(ALONG);
      gate.numbers(0, 1, 2);
      Due.due("two", gate.lists(0, 0, 2, 900), 2);
      holds(gate, 0, 2, i, due[i]);
    }
  }

  static void promise38_eatenOfWhatIsLeft() {
    for (int i = 0; i < 2; i++) {
      OneGate gate = Due.told(EATS_LOAD);
      gate.numbers(0, 1, 2);
      Due.due("two", gate.lists(0, 0, 2, 150), 2);
      holds(gate, 0, 2, i, 100);
    }
    OneGate bare = Due.told("towns 2;road 0 to 1 days 2;caravan at 0 to 1 load 9;eats : load + 1;");
    Due.write(bare, 0, 1, 7);
    Due.due("one", bare.lists(0, 0, 1, 9), 1);
    Due.due("0 of them, by which caravan 0 is sent on road 0", bare.perform(0), 1);
    Due.due("sent", bare.caravan(0, 1), 0);
  }

  static void promise38_ofEqualsTheFirst() {
    int[] due = {100, 97};
    for (int i = 0; i < 2; i++) {
      OneGate gate = Due.told(TIE);
      gate.numbers(0, 1, 2);
      Due.due("two", gate.lists(0, 0, 3, 101), 2);
      holds(gate, 0, 2, i, due[i]);
    }
  }

  static void promise39_eachIsItsOwn() {
    OneGate gate = new OneGate();
    gate.rate(0, 3);
    Due.due("the first", gate.image(0), 0);
    gate.rate(0, 4);
    Due.due("the second", gate.image(1), 0);
    gate.rate(0, 5);
    gate.restore(0);
    Due.due("of the first", gate.town(0, 0), 3);
    gate.restore(1);
    Due.due("of the second", gate.town(0, 0), 4);
  }

  static void promise39_theRoadsAndWhatUndoingBringsBack() {
    OneGate gate = Due.told(BY_SEA);
    gate.send(0, 1);
    gate.days(2, false);
    gate.send(1, 1);
    gate.days(1, false);
    gate.rate(0, 6);
    gate.seed(99);
    gate.image(1);
    Due.tell(gate, "towns 2;");
    gate.seed(5);
    gate.restore(1);
    Due.due("towns", gate.count(0), 3);
    Due.due("a road", gate.road(1, 2), 2);
    Due.due("there", gate.count(3), 1);
    Due.due("on a road", gate.caravan(1, 2), 1);
    Due.due("loads", gate.count(5), 71 + 92);
    Due.due("chest", gate.town(2, 1), 23);
    Due.due("rate", gate.town(0, 0), 6);
    Due.due("day", gate.count(7), 61);
    Due.due("a law", gate.dues(2, 500, true), 2 + 6 + 20 + 5);
    Due.due("x", gate.seed(0), 99);
  }

  static void promise40_toGoOnFrom() {
    OneGate gate = Due.told(BY_SEA);
    gate.image(0);
    for (int turn = 0; turn < 3; turn++) {
      gate.send(0, 1);
      gate.days(2, false);
      Due.due("arrived", gate.caravan(0, 4), 71);
      Due.due("as it was", gate.restore(0), 0);
      Due.due("not sent", gate.caravan(0, 4), 100);
      Due.due("nothing to be undone", gate.count(9), 0);
    }
  }

  static void promise41_allOfThem() {
    OneGate gate = Due.told(BY_SEA + "caravan at 2 to 2 load 40;caravan at 0 to 2 load 8;");
    gate.send(0, 1);
    gate.days(2, false);
    gate.send(1, 1);
    gate.days(1, false);
    Due.feed(gate, new byte[20]);
    int[] due = {3, 2, 4, 1 + 4, 2, 71 + 92 + 40 + 8, 23, 61, 2, 4, 20, 11};
    for (int what = 0; what < due.length; what++) Due.due("count " + what, gate.count(what), due[what]);
  }

  static void promise41_noLinesWithoutAText() {
    Due.due("lines", new OneGate().count(11), 0);
    Due.due("of towns alone", Due.told("towns 2;").count(11), 1);
  }
}
