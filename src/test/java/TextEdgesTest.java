/** Promises 1 to 10 at their bounds: a test for each case that the document names. */
public final class TextEdgesTest {
  private static final int MIN = Integer.MIN_VALUE;
  private static final int MAX = Integer.MAX_VALUE;
  private static final int BLANKS = 0x20202020;
  private static final String ROAD = "road 0 to 1 days 1;";
  private static final String CARAVAN = "caravan at 0 to 1 load 1;";

  public static void main(String[] args) {
    Cases.run(TextEdgesTest.class, 1, 10);
  }

  // ---- a new object

  static void promise01_twoTowns() {
    OneGate gate = new OneGate();
    Due.due("towns", gate.count(0), 2);
    Due.due("the last", gate.town(1, 0), 1);
    Due.due("no more", gate.town(2, 0), -2);
  }

  static void promise01_noRoads() {
    OneGate gate = new OneGate();
    Due.due("roads", gate.count(1), 0);
    Due.due("road 0", gate.road(0, 0), -2);
    Due.due("from town 0", gate.town(0, 2), 0);
    Due.due("eats", gate.eats(0, 1), -2);
    Due.due("open", gate.open(0, 0), -2);
  }

  static void promise01_noCaravans() {
    OneGate gate = new OneGate();
    Due.due("caravans", gate.count(2), 0);
    Due.due("caravan 0", gate.caravan(0, 0), -2);
    Due.due("there", gate.count(3), 0);
    Due.due("on roads", gate.count(4), 0);
    Due.due("loads", gate.count(5), 0);
    Due.due("send", gate.send(0, 0), -11);
  }

  static void promise01_ratesAreOneAndChestsEmpty() {
    OneGate gate = new OneGate();
    for (int t = 0; t < 2; t++) {
      Due.due("rate", gate.town(t, 0), 1);
      Due.due("chest", gate.town(t, 1), 0);
      Due.due("dues", gate.dues(t, 999, false), 1);
    }
    Due.due("chests", gate.count(6), 0);
  }

  static void promise01_dayMonthAndXAreZero() {
    OneGate gate = new OneGate();
    Due.due("day", gate.count(7), 0);
    Due.due("month", gate.count(8), 0);
    Due.due("x", gate.seed(1), 0);
  }

  static void promise01_nothingCanBeUndone() {
    OneGate gate = new OneGate();
    Due.due("calls", gate.count(9), 0);
    Due.due("undo", gate.undo(1), -3);
  }

  static void promise01_anEmptyTapeAndNoLines() {
    OneGate gate = new OneGate();
    Due.due("bytes", gate.count(10), 0);
    Due.due("lines", gate.count(11), 0);
    Due.due("roads", gate.roads(1), -3);
    Due.due("fault", gate.fault(0), 0);
    Due.due("place", gate.fault(1), -1);
  }

  static void promise01_traysMissingAndNoImages() {
    OneGate gate = new OneGate();
    for (int tray = 0; tray < 4; tray++) Due.due("tray", gate.write(tray, 0, 0), -6);
    for (int i = 0; i < 2; i++) Due.due("image", gate.restore(i), -5);
  }

  static void promise01_objectsStandAlone() {
    Rich.gate();
    OneGate gate = new OneGate();
    Due.due("towns", gate.count(0), 2);
    for (int what = 1; what < 12; what++) Due.due("count " + what, gate.count(what), 0);
    Due.due("image", gate.restore(0), -5);
    Due.due("tray", gate.judge(1, 0), -6);
  }

  // ---- feed

  static void promise02_theHighestByteOfEachIntIsFirst() {
    OneGate gate = new OneGate();
    gate.feed(0x746f776e, 0x7320333b, 0x6461790a, 0x3132333b, BLANKS);
    Due.due("lines of: towns 3;day 123;", gate.roads(20), 2);
    Due.due("towns", gate.count(0), 3);
    Due.due("day", gate.count(7), 123);
  }

  static void promise02_twentyBytesEach() {
    OneGate gate = new OneGate();
    Due.due("once", gate.feed(0, 0, 0, 0, 0), 20);
    Due.due("twice", gate.feed(-1, -1, -1, -1, -1), 40);
    Due.due("bytes", gate.count(10), 40);
  }

  static void promise02_behindThoseOnTheTape() {
    OneGate gate = new OneGate();
    gate.feed(0x746f776e, 0x73200a20, BLANKS, BLANKS, BLANKS);
    gate.feed(0x363b2020, BLANKS, BLANKS, BLANKS, BLANKS);
    Due.due("towns on the first, 6; on the second", gate.roads(40), 1);
    Due.due("towns", gate.count(0), 6);
  }

  static void promise02_zeroBytesAreBytes() {
    OneGate gate = new OneGate();
    gate.feed(0x746f776e, 0x7320323b, 0x20202000, 0, 0);
    Due.due("no token", gate.roads(20), -31);
    Due.due("place", gate.fault(1), 11);
  }

  static void promise02_bytesAbove127AreBytes() {
    OneGate gate = new OneGate();
    gate.feed(0x746f776e, 0x7320323b, 0x20ffffff, MIN, MAX);
    Due.due("no token", gate.roads(20), -31);
    Due.due("place", gate.fault(1), 9);
  }

  static void promise02_nineHundredFit() {
    OneGate gate = new OneGate();
    for (int n = 20; n <= 900; n += 20) Due.due("bytes", gate.feed(BLANKS, BLANKS, BLANKS, BLANKS, BLANKS), n);
    Due.due("on the tape", gate.count(10), 900);
  }

  static void promise02_moreThanNineHundredIsRefused() {
    OneGate gate = new OneGate();
    String text = "towns 5;" + " ".repeat(881) + "day 77    ;";
    Due.feed(gate, text.getBytes());
    Due.due("full", gate.count(10), 900);
    Due.due("more", gate.feed(-1, -1, -1, -1, -1), -5);
    Due.due("still full", gate.count(10), 900);
    Due.due("as it was", gate.roads(900), 2);
    Due.due("the last line", gate.count(7), 77);
  }

  static void promise02_anEmptiedTapeTakesAgain() {
    OneGate gate = new OneGate();
    for (int i = 0; i < 45; i++) gate.feed(BLANKS, BLANKS, BLANKS, BLANKS, BLANKS);
    gate.roads(0);
    Due.due("from the beginning", gate.feed(0x746f776e, 0x7320343b, BLANKS, BLANKS, BLANKS), 20);
    Due.due("read", gate.roads(20), 1);
    Due.due("towns", gate.count(0), 4);
  }

  static void promise02_isNoDeed() {
    OneGate gate = new OneGate();
    gate.rate(0, 4);
    gate.feed(1, 2, 3, 4, 5);
    Due.due("calls", gate.count(9), 1);
    Due.due("undone", gate.undo(1), 0);
    Due.due("the tape stays", gate.count(10), 20);
  }

  // ---- roads: how many bytes

  static void promise03_nBelowZero() {
    Rich.leavesAll(-3, gate -> gate.roads(-1));
  }

  static void promise03_nLeast() {
    Rich.leavesAll(-3, gate -> gate.roads(MIN));
  }

  static void promise03_nAboveWhatThereIs() {
    Rich.leavesAll(-3, gate -> gate.roads(21));
  }

  static void promise03_nMost() {
    Rich.leavesAll(-3, gate -> gate.roads(MAX));
  }

  static void promise03_oneOfAnEmptyTape() {
    OneGate gate = new OneGate();
    Due.due("there is none", gate.roads(1), -3);
    Due.due("not read", gate.fault(1), -1);
  }

  static void promise03_theTapeStaysWhenNIsRefused() {
    OneGate gate = Rich.gate();
    gate.roads(21);
    gate.roads(-1);
    Due.due("bytes", gate.count(10), 20);
    Due.due("read then", gate.roads(20), 2);
    Due.due("day", gate.count(7), 123);
  }

  static void promise03_noBytesAreAFault() {
    OneGate gate = Rich.gate();
    Due.due("towns must be told", gate.roads(0), -32);
    Due.due("kind", gate.fault(0), 2);
    Due.due("place", gate.fault(1), 0);
    Due.due("the tape is empty", gate.count(10), 0);
    Due.due("all else stays", gate.count(0), 4);
  }

  static void promise03_noBytesOfAnEmptyTape() {
    OneGate gate = new OneGate();
    Due.due("towns must be told", gate.roads(0), -32);
    Due.due("place", gate.fault(1), 0);
  }

  static void promise03_allBytes() {
    OneGate gate = Rich.gate();
    Due.due("lines", gate.roads(20), 2);
    Due.due("the tape is empty", gate.count(10), 0);
  }

  static void promise03_theFirstBytesAlone() {
    OneGate gate = new OneGate();
    Due.feed(gate, "towns 3;day 1;".getBytes());
    Due.due("of 20 the first 8", gate.roads(8), 1);
    Due.due("day", gate.count(7), 0);
    Due.due("the rest is gone", gate.count(10), 0);
    Due.due("no more", gate.roads(1), -3);
  }

  static void promise03_aTokenIsCutWhereTheTextEnds() {
    OneGate gate = new OneGate();
    Due.feed(gate, "towns 2;day 123;".getBytes());
    Due.due("it ends behind 12", gate.roads(14), -32);
    Due.due("the end: the length", gate.fault(1), 14);
    Due.feed(gate, "towns 2;day 1234;".getBytes());
    Due.due("three digits are read of four", gate.roads(15), -32);
    Due.due("place", gate.fault(1), 15);
  }

  static void promise03_aTextOfNineHundredBytes() {
    Due.good("towns 2;" + "day 3;".repeat(147) + "day   003;", 149);
    Due.bad("towns 2;" + "day 3;".repeat(147) + "day   0033", 1, 896);
    Due.bad("towns 2;" + "day 3;".repeat(147) + "day    003", 2, 900);
  }

  // ---- roads: what it does

  static void promise03_linesWithTownsToo() {
    Due.good("towns 2;", 1);
    Due.good("towns 2;day 1;day 1;", 3);
    Due.good("towns 2;" + ROAD + CARAVAN + "rate 1 at 0;dues:1;eats:1;opens:1=1;day 1;", 8);
  }

  static void promise03_allIsNewWithAText() {
    OneGate gate = Rich.gate();
    Due.due("a rich one", gate.count(6) > 0 ? 1 : 0, 1);
    gate.roads(20);
    int[] counts = {3, 0, 0, 0, 0, 0, 0, 123, 4, 0, 0, 2};
    for (int what = 0; what < counts.length; what++) Due.due("count " + what, gate.count(what), counts[what]);
    for (int t = 0; t < 3; t++) {
      Due.due("rate", gate.town(t, 0), 1);
      Due.due("chest", gate.town(t, 1), 0);
    }
    Due.due("x", gate.seed(0), 0);
    Due.due("dues by the rate, no law", gate.dues(1, 99, false), 1);
  }

  static void promise03_whatATextDoesntTellIsAsAtFirst() {
    OneGate gate = Due.told("towns 6;day 999;rate 9 at 0;rate 9 at 1;" + CARAVAN + ROAD);
    Due.due("a text of towns alone", Due.tell(gate, "towns 2;"), 1);
    int[] counts = {2, 0, 0, 0, 0, 0, 0, 0, 0, 0, 0, 1};
    for (int what = 0; what < counts.length; what++) Due.due("count " + what, gate.count(what), counts[what]);
    Due.due("rate", gate.town(0, 0), 1);
    Due.due("rate", gate.town(1, 0), 1);
  }

  static void promise03_lawsOfAnEarlierTextAreGone() {
    OneGate gate = Due.told("towns 2;" + ROAD + "dues : 9;eats : 8;opens : 1 = 2;");
    Due.due("a text without laws", Due.tell(gate, "towns 2;" + ROAD), 2);
    Due.due("dues", gate.dues(0, 99, false), 1);
    Due.due("eats", gate.eats(0, 99), 0);
    Due.due("open", gate.open(0, 0), 1);
  }

  static void promise03_nothingCanBeUndoneBehindAText() {
    OneGate gate = Rich.gate();
    gate.roads(20);
    Due.due("undo", gate.undo(1), -3);
  }

  static void promise03_traysAndImagesStay() {
    OneGate gate = Rich.gate();
    gate.roads(20);
    Due.due("a tray", gate.write(2, 2, 5), 5);
    Due.due("an empty one", gate.write(0, 0, 5), -7);
    Due.due("a missing one", gate.write(3, 0, 5), -6);
    Due.due("an image", gate.restore(0), 0);
    Due.due("its towns", gate.count(0), 4);
    Due.due("none", gate.restore(1), -5);
  }

  static void promise03_allStaysWithAFault() {
    String[] faulty = {"towns 2;.", "towns 2;day ;", "towns 7;", "towns 2;" + ROAD.repeat(11)};
    for (int kind = 1; kind <= 4; kind++) {
      OneGate asked = Rich.gate();
      OneGate other = Rich.gate();
      asked.roads(0);
      other.roads(0);
      Due.due("kind", Due.tell(asked, faulty[kind - 1]), -30 - kind);
      // That the latest fault is told is all that differs.
      Due.tell(asked, "towns ;");
      Due.tell(other, "towns ;");
      Rich.sameAs("behind a fault", asked, other);
    }
  }

  static void promise03_theTapeIsEmptyBehindAFault() {
    OneGate gate = new OneGate();
    Due.tell(gate, "towns 2;.");
    Due.due("bytes", gate.count(10), 0);
    Due.due("a text behind it", Due.tell(gate, "towns 3;"), 1);
  }

  // ---- roads: the text's limits

  static void promise03_towns() {
    Due.good("towns 2;", 1);
    Due.good("towns 6;", 1);
    Due.badAt("towns ^1;", 3);
    Due.badAt("towns ^0;", 3);
    Due.badAt("towns ^7;", 3);
    Due.badAt("towns ^999;", 3);
  }

  static void promise03_townsFirst() {
    Due.badAt("^day 1;towns 2;", 2);
    Due.badAt("^;towns 2;", 2);
    Due.badAt("^2;", 2);
  }

  static void promise03_townsOnce() {
    Due.badAt("towns 2;^towns 2;", 2);
    Due.badAt("towns 2;day 1;^towns 3;", 2);
  }

  static void promise03_roadsTowns() {
    Due.good("towns 6;road 0 to 5 days 1;road 5 to 0 days 1;", 3);
    Due.badAt("towns 6;road ^6 to 0 days 1;", 3);
    Due.badAt("towns 6;road 0 to ^6 days 1;", 3);
    Due.badAt("towns 2;road ^2 to 0 days 1;", 3);
    Due.badAt("towns 2;road 0 to ^2 days 1;", 3);
  }

  static void promise03_aRoadToTheTownItIsFrom() {
    Due.badAt("towns 2;road 0 to ^0 days 1;", 3);
    Due.badAt("towns 6;road 5 to ^005 days 1;", 3);
  }

  static void promise03_roadsDays() {
    Due.good("towns 2;road 0 to 1 days 1;road 0 to 1 days 40;", 3);
    Due.badAt("towns 2;road 0 to 1 days ^0;", 3);
    Due.badAt("towns 2;road 0 to 1 days ^41;", 3);
  }

  static void promise03_roadsRisk() {
    Due.good("towns 2;road 0 to 1 days 1 risk 0;road 0 to 1 days 1 risk 10;", 3);
    Due.badAt("towns 2;road 0 to 1 days 1 risk ^11;", 3);
    Due.badAt("towns 2;road 0 to 1 days 1 risk 1 sea risk ^11;", 3);
  }

  static void promise03_aLaterRiskStrikes() {
    OneGate gate = Due.told("towns 2;road 0 to 1 days 1 risk 9 risk 2;road 0 to 1 days 1 risk 9 sea risk 0;" + ROAD);
    Due.due("2", gate.road(0, 3), 2);
    Due.due("0", gate.road(1, 3), 0);
    Due.due("none told", gate.road(2, 3), 0);
  }

  static void promise03_seaTwiceIsSea() {
    OneGate gate = Due.told("towns 2;road 0 to 1 days 1 sea sea;");
    Due.due("by sea", gate.road(0, 4), 1);
  }

  static void promise03_tenRoads() {
    Due.good("towns 2;" + ROAD.repeat(10), 11);
    Due.badAt("towns 2;" + ROAD.repeat(10) + "^" + ROAD, 4);
    Due.badAt("towns 2;" + ROAD.repeat(10) + "day 1;\n ^road", 4);
    Due.badAt("towns 2;" + ROAD.repeat(10) + "^road 9", 4);
  }

  static void promise03_sixCaravans() {
    Due.good("towns 2;" + CARAVAN.repeat(6), 7);
    Due.badAt("towns 2;" + CARAVAN.repeat(6) + "^" + CARAVAN, 4);
    Due.badAt("towns 2;" + CARAVAN.repeat(6) + "day 1; ^caravan at 9", 4);
  }

  static void promise03_caravansTowns() {
    Due.good("towns 6;caravan at 5 to 0 load 1;caravan at 0 to 5 load 1;", 3);
    Due.badAt("towns 6;caravan at ^6 to 0 load 1;", 3);
    Due.badAt("towns 6;caravan at 0 to ^6 load 1;", 3);
  }

  static void promise03_aCaravanWhereItGoes() {
    OneGate gate = Due.told("towns 2;caravan at 1 to 1 load 7;");
    Due.due("there", gate.count(3), 1);
  }

  static void promise03_loads() {
    Due.good("towns 2;caravan at 0 to 1 load 1;caravan at 0 to 1 load 999;", 3);
    Due.badAt("towns 2;caravan at 0 to 1 load ^0;", 3);
    Due.badAt("towns 2;caravan at 0 to 1 load ^000;", 3);
    Due.badAt("towns 2;caravan at 0 to 1 load ^1000;", 1);
  }

  static void promise03_rates() {
    Due.good("towns 6;rate 0 at 0;rate 9 at 5;", 3);
    Due.badAt("towns 6;rate ^10 at 0;", 3);
    Due.badAt("towns 6;rate 9 at ^6;", 3);
  }

  static void promise03_daysTold() {
    Due.good("towns 2;day 0;day 999;", 3);
    Due.badAt("towns 2;day ^1000;", 1);
    OneGate gate = Due.told("towns 2;day 999;");
    Due.due("day", gate.count(7), 999);
    Due.due("month", gate.count(8), 9);
  }

  static void promise03_laterOnesStrike() {
    OneGate gate = Due.told("towns 2;" + ROAD + "rate 5 at 0;rate 7 at 1;rate 0 at 0;dues:1;dues:2;eats:3;eats:4;"
        + "opens:1=1;opens:1=2;day 9;day 0;");
    Due.due("rate", gate.town(0, 0), 0);
    Due.due("another town's", gate.town(1, 0), 7);
    Due.due("dues", gate.dues(0, 99, false), 2);
    Due.due("eats", gate.eats(0, 99), 4);
    Due.due("opens", gate.open(0, 0), 0);
    Due.due("day", gate.count(7), 0);
  }

  static void promise03_sixWithinOneAnother() {
    Due.good("towns 2;dues : ((((((1))))));", 2);
    Due.good("towns 2;eats : ((((((1))))));", 2);
    Due.good("towns 2;opens : ((((((1)))))) = ((((((1))))));", 2);
    Due.good("towns 2;opens : [[[[[[1 = 1]]]]]];", 2);
    Due.good("towns 2;opens : not not not not not not 1 = 1;", 2);
    Due.good("towns 2;opens : not [ not [ ((1)) = ((1)) ] ];", 2);
  }

  static void promise03_aSeventhWithin() {
    Due.badAt("towns 2;dues : ((((((^(1)))))));", 4);
    Due.badAt("towns 2;eats : 1 + ((((((2 * ^(1)))))));", 4);
    Due.badAt("towns 2;opens : ((((((^(1))))))) = 1;", 4);
    Due.badAt("towns 2;opens : 1 = ((((((^(1)))))));", 4);
    Due.badAt("towns 2;opens : [[[[[[^[1 = 1]]]]]]];", 4);
    Due.badAt("towns 2;opens : not not not not not not ^not 1 = 1;", 4);
    Due.badAt("towns 2;opens : not [ not [ not [ ^( 1 ) = 1 ] ] ];", 4);
    Due.badAt("towns 2;opens : 1 = 1 or [[[[[[^[1 = 1]]]]]]];", 4);
    Due.badAt("towns 2;opens : 1 = 1 and [[[[[[^[1 = 1]]]]]]];", 4);
    Due.badAt("towns 2;opens : [[[[[[1 = 1 or ^not 1 = 1]]]]]];", 4);
    Due.badAt("towns 2;opens : [[[[[[1 = 1 and ^not 1 = 1]]]]]];", 4);
    Due.badAt("towns 2;dues : 1 * ((((((1 - 1 * ^(1)))))));", 4);
    Due.badAt("towns 2;opens : not [ not [ not [ 1 = ^( 1 ) ] ] ];", 4);
    Due.badAt("towns 2;opens : [ [ [ ( ( ( ^( 1", 4);
  }

  static void promise03_manyBesideOneAnother() {
    Due.good("towns 2;dues : (1) + (1) + (1) * (1) * (1) - (1) - (1) - ((1));", 2);
    Due.good("towns 2;opens : [1=1] or [1=1] or [1=1] and [1=1] and [1=1] and [1=1] and [1=1];", 2);
    Due.good("towns 2;opens : not 1=1 or not 1=1 or not 1=1 or not 1=1 or not 1=1 or not 1=1 or not 1=1;", 2);
    Due.good("towns 2;opens : [[[[[[1=1]]]]]] and [[[[[[1=1]]]]]];", 2);
  }

  // ---- roads: tokens and faults

  static void promise03_blanks() {
    Due.good("\n \ntowns\n\n2 ; \n ", 1);
    Due.good("towns2;road0to1days40risk10sea;", 2);
    Due.badAt("towns^\t2;", 1);
    Due.badAt("towns 2;^\r\n", 1);
    Due.badAt("towns 2;^\f", 1);
    Due.badAt("towns 2;^\u00a0", 1);
  }

  static void promise03_wordsOfSmallLettersFromAToZ() {
    Due.badAt("towns 2;^abcdefghijklmnopqrstuvwxyz;", 2);
    Due.badAt("towns 2;^dayz 1;", 2);
    Due.badAt("towns 2;^aday 1;", 2);
    Due.badAt("towns 2;day^Z 1;", 1);
    Due.badAt("towns 2;^A", 1);
  }

  static void promise03_wordsGoOnAsLongAsTheyCan() {
    Due.badAt("^townss 2;", 2);
    Due.badAt("^town s 2;", 2);
    Due.badAt("towns 2;^dayday 1;", 2);
    Due.badAt("towns 2;opens : 1 = 1 ^andnot 1 = 1;", 2);
  }

  static void promise03_numbersGoOnAsLongAsTheyCan() {
    Due.good("towns 002;day 000;", 2);
    Due.badAt("towns ^0002;", 1);
    Due.badAt("towns 2;day 1 ^2;", 2);
    Due.badAt("towns 2;day ^" + "1".repeat(800) + ";", 1);
    Due.badAt("towns 2;^1234", 1);
  }

  static void promise03_signs() {
    Due.good("towns 2;dues:1+2-3*(4);opens:[1=1]and 1<2 or 2>1;", 3);
    for (char c = 0; c < 256; c++) {
      boolean token = c >= 'a' && c <= 'z' || c >= '0' && c <= '9' || ";:+-*()[]=<>".indexOf(c) >= 0;
      if (c != ' ' && c != '\n') Due.bad("towns 2;" + c, token ? 2 : 1, 8);
    }
  }

  static void promise03_theEndIsTheTextsLength() {
    Due.badAt("^", 2);
    Due.badAt(" \n ^", 2);
    Due.badAt("towns^", 2);
    Due.badAt("towns 2^", 2);
    Due.badAt("towns 2   ^", 2);
    Due.badAt("towns 2;dues^", 2);
    Due.badAt("towns 2;dues :\n^", 2);
    Due.badAt("towns 2;dues : (1^", 2);
    Due.badAt("towns 2;opens : not^", 2);
    Due.badAt("towns 2;opens : [1 = 1^", 2);
    Due.badAt("towns 2;road 0 to 1 days 1 risk^", 2);
    Due.badAt("towns 2;road 0 to 1 days 1^", 2);
  }

  static void promise03_truthsAndSumsAreNotTheSame() {
    Due.badAt("towns 2;opens : 1^;", 2);
    Due.badAt("towns 2;opens : [1^] = 1;", 2);
    Due.badAt("towns 2;opens : (1 ^= 1);", 2);
    Due.badAt("towns 2;opens : 1 = 1 ^= 1;", 2);
    Due.badAt("towns 2;dues : 1 ^= 1;", 2);
    Due.badAt("towns 2;dues : ^not 1;", 2);
    Due.badAt("towns 2;eats : ^[1];", 2);
    Due.badAt("towns 2;eats : 1 ^and 1;", 2);
  }

  static void promise03_noLawIsEmpty() {
    Due.badAt("towns 2;dues : ^;", 2);
    Due.badAt("towns 2;eats : (^);", 2);
    Due.badAt("towns 2;opens : ^;", 2);
    Due.badAt("towns 2;opens : [^];", 2);
    Due.badAt("towns 2;opens : 1 = 1 or ^;", 2);
    Due.badAt("towns 2;opens : 1 = 1 and ^;", 2);
    Due.badAt("towns 2;dues : ^- 1;", 2);
    Due.badAt("towns 2;dues : 1 * ^;", 2);
  }

  static void promise03_aWordOfAnotherLaw() {
    Due.good("towns 2;dues : town + rate + load + month + sea;", 2);
    Due.good("towns 2;eats : road + load + month + sea;", 2);
    Due.good("towns 2;opens : road + month + sea = 1;", 2);
    Due.badAt("towns 2;dues : ^road;", 2);
    Due.badAt("towns 2;eats : ^town;", 2);
    Due.badAt("towns 2;eats : ^rate;", 2);
    Due.badAt("towns 2;opens : ^town = 1;", 2);
    Due.badAt("towns 2;opens : 1 = ^rate;", 2);
    Due.badAt("towns 2;opens : ^load = 1;", 2);
  }

  static void promise03_theFirstFaultAlongTheText() {
    Due.badAt("towns ^7;day .", 3);
    Due.badAt("towns 2;day ^;.", 2);
    Due.badAt("towns 2;" + ROAD.repeat(10) + "^road 7 to 9 days 99 .", 4);
    Due.badAt("towns 2;^.towns 9;", 1);
  }

  static void promise03_ofOneTokenTheLeastKind() {
    // 1 ahead of 2: neither a token nor in its place; 2 ahead of 3: a number where none can stand.
    Due.badAt("^9999", 1);
    Due.badAt("towns 2;rate 1 ^999;", 2);
    Due.badAt("towns 2;road ^1000 to 0 days 1;", 1);
    // 2 ahead of 4: a seventh [ or ( where none can stand.
    Due.badAt("towns 2;opens : [[[[[[1 = ^[", 2);
    Due.badAt("towns 2;dues : ((((((1 ^(", 2);
    Due.badAt("towns 2;dues : ((((((^not", 2);
    // 2 ahead of 4: a road where a caravan's word is due.
    Due.badAt("towns 2;" + ROAD.repeat(10) + "day ^road", 2);
    // 1 ahead of 4.
    Due.badAt("towns 2;dues : ((((((^{", 1);
  }

  // ---- fault

  static void promise04_noTextYet() {
    OneGate gate = new OneGate();
    Due.due("kind", gate.fault(0), 0);
    Due.due("place", gate.fault(1), -1);
  }

  static void promise04_aFault() {
    OneGate gate = Due.told("towns 2;");
    Due.tell(gate, "?");
    Due.due("kind", gate.fault(0), 1);
    Due.due("the first place", gate.fault(1), 0);
  }

  static void promise04_theLastPlaces() {
    OneGate gate = new OneGate();
    Due.tell(gate, "towns 2;" + " ".repeat(891) + "?");
    Due.due("899", gate.fault(1), 899);
    Due.tell(gate, "towns 2;" + " ".repeat(887) + "day 1");
    Due.due("900", gate.fault(1), 900);
  }

  static void promise04_aTextWithoutOneBehind() {
    OneGate gate = Rich.gate();
    Due.due("ahead", gate.fault(0), 2);
    Due.due("its place", gate.fault(1), 6);
    gate.roads(20);
    Due.due("kind", gate.fault(0), 0);
    Due.due("place", gate.fault(1), -1);
  }

  static void promise04_aRefusedNumberOfBytesIsNotRead() {
    OneGate gate = Rich.gate();
    Due.due("refused", gate.roads(21), -3);
    Due.due("kind", gate.fault(0), 2);
    Due.due("place", gate.fault(1), 6);
  }

  static void promise04_undoingAndImagesLeaveIt() {
    OneGate gate = Rich.gate();
    gate.undo(5);
    Due.due("kind", gate.fault(0), 2);
    gate.restore(0);
    Due.due("kind", gate.fault(0), 2);
    Due.due("place", gate.fault(1), 6);
  }

  static void promise04_others() {
    for (int what : new int[] {-1, 2, MIN, MAX}) Rich.leavesAll(-1, gate -> gate.fault(what));
  }

  // ---- town

  static void promise05_noSuchTown() {
    for (int t : new int[] {-1, 4, 6, MIN, MAX}) Rich.leavesAll(-2, gate -> gate.town(t, 0));
  }

  static void promise05_noSuchWhat() {
    for (int what : new int[] {-1, 4, MIN, MAX}) Rich.leavesAll(-2, gate -> gate.town(0, what));
  }

  static void promise05_theLastOfSixTowns() {
    OneGate gate = Due.told("towns 6;rate 9 at 5;road 5 to 0 days 1;caravan at 5 to 5 load 1;");
    Due.due("rate", gate.town(5, 0), 9);
    Due.due("chest", gate.town(5, 1), 0);
    Due.due("roads", gate.town(5, 2), 1);
    Due.due("caravans", gate.town(5, 3), 1);
    Due.due("no seventh", gate.town(6, 0), -2);
  }

  static void promise05_allRoadsAndCaravans() {
    OneGate gate = Due.told("towns 2;" + ROAD.repeat(10) + CARAVAN.repeat(6));
    Due.due("ten roads", gate.town(0, 2), 1023);
    Due.due("six caravans", gate.town(0, 3), 63);
    Due.due("no roads", gate.town(1, 2), 0);
    Due.due("no caravans", gate.town(1, 3), 0);
  }

  static void promise05_caravansOnRoadsAreNotThere() {
    OneGate gate = Due.told("towns 2;" + ROAD + CARAVAN);
    gate.send(0, 0);
    Due.due("where it was", gate.town(0, 3), 0);
    Due.due("where it goes", gate.town(1, 3), 0);
  }

  static void promise05_leavesAll() {
    Rich.leavesAll(3, gate -> gate.town(1, 0));
    Rich.leavesAll(2 + 16, gate -> gate.town(1, 2));
    Rich.leavesAll(1 + 2, gate -> gate.town(1, 3));
  }

  // ---- road

  static void promise06_noSuchRoad() {
    for (int r : new int[] {-1, 5, 10, MIN, MAX}) Rich.leavesAll(-2, gate -> gate.road(r, 0));
  }

  static void promise06_noSuchWhat() {
    for (int what : new int[] {-1, 5, MIN, MAX}) Rich.leavesAll(-2, gate -> gate.road(0, what));
  }

  static void promise06_theTenthRoad() {
    OneGate gate = Due.told("towns 6;" + ROAD.repeat(9) + "road 5 to 4 days 40 risk 10 sea;");
    int[] last = {5, 4, 40, 10, 1};
    for (int what = 0; what < 5; what++) Due.due("what " + what, gate.road(9, what), last[what]);
    Due.due("no eleventh", gate.road(10, 0), -2);
  }

  static void promise06_neitherRiskNorSea() {
    OneGate gate = Due.told("towns 2;" + ROAD);
    Due.due("risk", gate.road(0, 3), 0);
    Due.due("by land", gate.road(0, 4), 0);
  }

  // ---- caravan

  static void promise07_noSuchCaravan() {
    for (int c : new int[] {-1, 4, 6, MIN, MAX}) Rich.leavesAll(-2, gate -> gate.caravan(c, 0));
  }

  static void promise07_noSuchWhat() {
    for (int what : new int[] {-1, 5, MIN, MAX}) Rich.leavesAll(-2, gate -> gate.caravan(0, what));
  }

  static void promise07_theSixthCaravan() {
    OneGate gate = Due.told("towns 6;" + CARAVAN.repeat(5) + "caravan at 4 to 5 load 999;");
    int[] last = {4, -1, 0, 5, 999};
    for (int what = 0; what < 5; what++) Due.due("what " + what, gate.caravan(5, what), last[what]);
    Due.due("no seventh", gate.caravan(6, 0), -2);
  }

  static void promise07_onARoad() {
    OneGate gate = Due.told("towns 2;road 0 to 1 days 40;" + CARAVAN);
    gate.send(0, 0);
    int[] first = {-1, 0, 40, 1, 1};
    for (int what = 0; what < 5; what++) Due.due("what " + what, gate.caravan(0, what), first[what]);
    gate.days(39, false);
    Due.due("on its last day", gate.caravan(0, 2), 1);
    Due.due("not in a town", gate.caravan(0, 0), -1);
    gate.days(1, false);
    Due.due("none left", gate.caravan(0, 2), 0);
    Due.due("on no road", gate.caravan(0, 1), -1);
    Due.due("in its town", gate.caravan(0, 0), 1);
  }

  static void promise07_withNothingLeftOfItsLoad() {
    OneGate gate = Due.told("towns 2;" + ROAD + CARAVAN + "eats : 1;");
    gate.send(0, 0);
    Due.due("it arrives", gate.days(1, false), 1);
    Due.due("load", gate.caravan(0, 4), 0);
    Due.due("in its town", gate.caravan(0, 0), 1);
  }

  // ---- dues

  static void promise08_noSuchTown() {
    for (int t : new int[] {-1, 4, MIN, MAX}) Rich.leavesAll(-2, gate -> gate.dues(t, 5, true));
  }

  static void promise08_loadBelowZero() {
    Rich.leavesAll(-3, gate -> gate.dues(0, -1, false));
    Rich.leavesAll(-3, gate -> gate.dues(0, MIN, false));
  }

  static void promise08_loadAbove999() {
    Rich.leavesAll(-3, gate -> gate.dues(0, 1000, false));
    Rich.leavesAll(-3, gate -> gate.dues(0, MAX, false));
  }

  static void promise08_theTownIsToldFirst() {
    Rich.leavesAll(-2, gate -> gate.dues(4, -1, false));
  }

  static void promise08_loadsOf0And999() {
    OneGate gate = Due.told("towns 2;dues : load;");
    Due.due("of nothing", gate.dues(0, 0, false), 0);
    Due.due("of most", gate.dues(1, 999, true), 999);
    OneGate fixed = Due.told("towns 2;dues : 7;");
    Due.due("of nothing", fixed.dues(0, 0, false), 0);
  }

  static void promise08_zeroAtLeast() {
    OneGate gate = Due.told("towns 2;dues : load - 10;");
    Due.due("-1", gate.dues(0, 9, false), 0);
    Due.due("0", gate.dues(0, 10, false), 0);
    Due.due("1", gate.dues(0, 11, false), 1);
  }

  static void promise08_theLoadAtMost() {
    OneGate gate = Due.told("towns 2;dues : 10;");
    Due.due("of 9", gate.dues(0, 9, false), 9);
    Due.due("of 10", gate.dues(0, 10, false), 10);
    Due.due("of 11", gate.dues(0, 11, false), 10);
  }

  static void promise08_withoutALawTheRateTheLoadAtMost() {
    OneGate gate = Due.told("towns 2;rate 9 at 1;rate 0 at 0;");
    Due.due("of 8", gate.dues(1, 8, true), 8);
    Due.due("of 999", gate.dues(1, 999, true), 9);
    Due.due("of 0", gate.dues(1, 0, true), 0);
    Due.due("by rate 0", gate.dues(0, 999, true), 0);
  }

  static void promise08_seaIsOneOrZero() {
    OneGate gate = Due.told("towns 2;dues : sea + 4;");
    Due.due("by sea", gate.dues(0, 99, true), 5);
    Due.due("by land", gate.dues(0, 99, false), 4);
  }

  static void promise08_theMonthOfToday() {
    OneGate gate = Due.told("towns 2;dues : month;day 359;");
    Due.due("11", gate.dues(0, 99, false), 11);
    gate.days(1, false);
    Due.due("0 again", gate.dues(0, 99, false), 0);
    gate.days(29, false);
    Due.due("day 389", gate.dues(0, 99, false), 0);
    gate.days(1, false);
    Due.due("day 390", gate.dues(0, 99, false), 1);
  }

  static void promise08_theTownsNumberAndRate() {
    OneGate gate = Due.told("towns 6;dues : town * 10 + rate;rate 9 at 5;rate 0 at 0;");
    Due.due("the first", gate.dues(0, 99, false), 0);
    Due.due("the last", gate.dues(5, 99, false), 59);
    gate.rate(5, 3);
    Due.due("its rate now", gate.dues(5, 99, false), 53);
  }

  private static void takes(String law, int due) {
    Due.due(law, Due.told("towns 2;dues : " + law + ";").dues(0, 999, false), due);
  }

  static void promise08_sumsAreKeptToAMillion() {
    takes("100 * 100 * 100 + 999 - 100 * 100 * 100", 0);
    takes("999 * 999 + 999 + 999 + 1 - 999 * 999 - 999 - 998", 2);
    takes("100 * 100 * 100 - 999 * 999 - 999 - 999", 1);
    takes("1 + 100 * 100 * 100 - 100 * 100 * 100 + 6", 6);
  }

  static void promise08_sumsAreKeptToMinusAMillion() {
    takes("0 - 100 * 100 * 100 - 999 + 100 * 100 * 100 + 5", 5);
    takes("0 - 100 * 100 * 100 + 999 * 999 + 999 + 999 + 3", 2);
    takes("(0 - 100 * 100 * 100 + (0 - 1)) + 100 * 100 * 100 + 8", 8);
  }

  static void promise08_productsAreKept() {
    takes("999 * 999 * 999 - 100 * 100 * 100 + 7", 7);
    takes("999 * 999 * 999 * 999 * 999 * 999 * 999 - 100 * 100 * 100 + 7", 7);
    takes("(0 - 999) * 999 * 999 + 100 * 100 * 100 + 4", 4);
    takes("(0 - 100 * 100 * 100) * (100 * 100 * 100) + 100 * 100 * 100 + 4", 4);
    takes("(0 - 100 * 100 * 100) * (0 - 100 * 100 * 100) - 100 * 100 * 100 + 4", 4);
  }

  static void promise08_eachIsKeptAlongTheWay() {
    takes("999 * 999 * 2 * 0 + 3", 3);
    takes("100 * 100 * 100 * 2 - 999 * 999 - 999 - 999", 1);
  }

  // ---- eats

  static void promise09_noSuchRoad() {
    for (int r : new int[] {-1, 5, 10, MIN, MAX}) Rich.leavesAll(-2, gate -> gate.eats(r, 5));
  }

  static void promise09_loadBelowZero() {
    Rich.leavesAll(-3, gate -> gate.eats(0, -1));
    Rich.leavesAll(-3, gate -> gate.eats(0, MIN));
  }

  static void promise09_loadAbove999() {
    Rich.leavesAll(-3, gate -> gate.eats(0, 1000));
    Rich.leavesAll(-3, gate -> gate.eats(0, MAX));
  }

  static void promise09_theRoadIsToldFirst() {
    Rich.leavesAll(-2, gate -> gate.eats(5, -1));
  }

  static void promise09_loadsOf0And999() {
    OneGate gate = Due.told("towns 2;" + ROAD + "eats : load + 1;");
    Due.due("of nothing", gate.eats(0, 0), 0);
    Due.due("of most", gate.eats(0, 999), 999);
  }

  static void promise09_zeroAtLeast() {
    OneGate gate = Due.told("towns 2;" + ROAD + "eats : load - 10;");
    Due.due("-1", gate.eats(0, 9), 0);
    Due.due("0", gate.eats(0, 10), 0);
    Due.due("1", gate.eats(0, 11), 1);
  }

  static void promise09_theLoadAtMost() {
    OneGate gate = Due.told("towns 2;" + ROAD + "eats : 10;");
    Due.due("of 9", gate.eats(0, 9), 9);
    Due.due("of 10", gate.eats(0, 10), 10);
    Due.due("of 11", gate.eats(0, 11), 10);
  }

  static void promise09_withoutALawNothing() {
    OneGate gate = Due.told("towns 2;road 0 to 1 days 40 sea;day 999;");
    Due.due("of 999", gate.eats(0, 999), 0);
  }

  static void promise09_theRoadsNumberAndSea() {
    OneGate gate = Due.told("towns 2;" + ROAD.repeat(9) + "road 0 to 1 days 1 sea;eats : road * 10 + sea;");
    Due.due("the first", gate.eats(0, 999), 0);
    Due.due("the last", gate.eats(9, 999), 91);
  }

  static void promise09_theMonthOfToday() {
    OneGate gate = Due.told("towns 2;" + ROAD + "eats : month;day 359;");
    Due.due("11", gate.eats(0, 99), 11);
    gate.days(1, false);
    Due.due("0 again", gate.eats(0, 99), 0);
  }

  static void promise09_sumsAreKept() {
    OneGate high = Due.told("towns 2;" + ROAD + "eats : 100 * 100 * 100 + 999 - 100 * 100 * 100 + 3;");
    Due.due("to a million", high.eats(0, 999), 3);
    OneGate low = Due.told("towns 2;" + ROAD + "eats : 0 - 100 * 100 * 100 - 999 + 100 * 100 * 100 + 5;");
    Due.due("to minus a million", low.eats(0, 999), 5);
    OneGate product = Due.told("towns 2;" + ROAD + "eats : load * load * load * load - 100 * 100 * 100 + 2;");
    Due.due("of a product", product.eats(0, 999), 2);
  }

  // ---- open

  static void promise10_noSuchRoad() {
    for (int r : new int[] {-1, 5, 10, MIN, MAX}) Rich.leavesAll(-2, gate -> gate.open(r, 0));
  }

  static void promise10_daysBelowZero() {
    Rich.leavesAll(-3, gate -> gate.open(0, -1));
    Rich.leavesAll(-3, gate -> gate.open(0, MIN));
  }

  static void promise10_daysAbove999() {
    Rich.leavesAll(-3, gate -> gate.open(0, 1000));
    Rich.leavesAll(-3, gate -> gate.open(0, MAX));
  }

  static void promise10_theRoadIsToldFirst() {
    Rich.leavesAll(-2, gate -> gate.open(5, -1));
  }

  static void promise10_in0And999Days() {
    OneGate gate = Due.told("towns 2;" + ROAD + "opens : month = 9 or month = 6;day 999;");
    Due.due("day 999, month 9", gate.open(0, 0), 1);
    Due.due("day 1998, month 6 of the sixth year", gate.open(0, 999), 1);
    Due.due("day 1980, its first", gate.open(0, 981), 1);
    Due.due("day 1979, month 5", gate.open(0, 980), 0);
  }

  static void promise10_monthsTurnOnTheThirtiethDay() {
    OneGate gate = Due.told("towns 2;" + ROAD + "opens : month = 1;");
    Due.due("day 29", gate.open(0, 29), 0);
    Due.due("day 30", gate.open(0, 30), 1);
    Due.due("day 59", gate.open(0, 59), 1);
    Due.due("day 60", gate.open(0, 60), 0);
  }

  static void promise10_monthsBeginAnewBehindTheTwelfth() {
    OneGate gate = Due.told("towns 2;" + ROAD + "opens : month = 0;");
    Due.due("day 29", gate.open(0, 29), 1);
    Due.due("day 30", gate.open(0, 30), 0);
    Due.due("day 359", gate.open(0, 359), 0);
    Due.due("day 360", gate.open(0, 360), 1);
    Due.due("day 389", gate.open(0, 389), 1);
    Due.due("day 390", gate.open(0, 390), 0);
    Due.due("day 720", gate.open(0, 720), 1);
    OneGate above = Due.told("towns 2;" + ROAD + "opens : month > 11;");
    for (int n = 0; n < 500; n += 29) Due.due("never 12", above.open(0, n), 0);
  }

  static void promise10_fromTodayOn() {
    OneGate gate = Due.told("towns 2;" + ROAD + "opens : month = 1;day 28;");
    Due.due("day 29", gate.open(0, 1), 0);
    gate.days(1, true);
    Due.due("day 30", gate.open(0, 1), 1);
  }

  static void promise10_withoutALawAlways() {
    OneGate gate = Due.told("towns 2;" + ROAD);
    for (int n = 0; n < 1000; n += 37) Due.due("open", gate.open(0, n), 1);
    Due.due("open", gate.open(0, 999), 1);
  }

  static void promise10_roadAndSea() {
    OneGate gate = Due.told("towns 2;" + ROAD.repeat(9) + "road 0 to 1 days 1 sea;opens : road = 9 and sea = 1;");
    Due.due("the first", gate.open(0, 0), 0);
    Due.due("the last", gate.open(9, 0), 1);
  }

  private static void opens(String law, int due) {
    Due.due(law, Due.told("towns 2;" + ROAD + "opens : " + law + ";").open(0, 0), due);
  }

  static void promise10_comparisonsAtTheirEdge() {
    opens("2 < 3", 1);
    opens("3 < 3", 0);
    opens("4 < 3", 0);
    opens("4 > 3", 1);
    opens("3 > 3", 0);
    opens("2 > 3", 0);
    opens("3 = 3", 1);
    opens("3 = 4", 0);
    opens("0 - 1 < 0", 1);
    opens("0 - 1 = 0 - 1", 1);
  }

  static void promise10_truths() {
    opens("1=1 or 1=1 and 1=2", 1);
    opens("[1=1 or 1=1] and 1=2", 0);
    opens("not 1=2 and 1=2", 0);
    opens("not [1=2 and 1=2]", 1);
    opens("not not 1=1", 1);
    opens("not not not not not not 1=2", 0);
    opens("1=2 or 1=2 or 1=1", 1);
    opens("1=1 and 1=1 and 1=2", 0);
  }

  static void promise10_sumsAreKept() {
    opens("100 * 100 * 100 + 1 = 100 * 100 * 100", 1);
    opens("100 * 100 * 100 - 1 = 100 * 100 * 100", 0);
    opens("0 - 100 * 100 * 100 - 1 = 0 - 100 * 100 * 100", 1);
    opens("0 - 100 * 100 * 100 + 1 = 0 - 100 * 100 * 100", 0);
    opens("999 * 999 * 999 = 100 * 100 * 100", 1);
    opens("999 * 999 * 999 > 100 * 100 * 100", 0);
    opens("(0 - 999) * 999 * 999 < 0 - 100 * 100 * 100", 0);
  }
}
