/** Promises 1 to 10: a new object, the tape, texts and their faults, and what can be asked of the roads. */
public final class TextTest {
  public static void main(String[] args) {
    promise1();
    promise2();
    promise3();
    laterOnesStrike();
    tokens();
    faultsOfTokens();
    faultsOfPlaces();
    faultsOfBounds();
    faultsOfTooMany();
    faultsOfLaws();
    promise4();
    promise5();
    promise6();
    promise7();
    promise8();
    promise9();
    promise10();
    sumsAreKept();
    Due.end();
  }

  private static void promise1() {
    OneGate gate = new OneGate();
    Due.due("NONE", OneGate.NONE, -1);
    Due.due("towns", gate.count(0), 2);
    for (int what = 1; what <= 11; what++) Due.due("count " + what, gate.count(what), 0);
    for (int t = 0; t < 2; t++) {
      Due.due("rate", gate.town(t, 0), 1);
      Due.due("chest", gate.town(t, 1), 0);
    }
    Due.due("no third town", gate.town(2, 0), -2);
    Due.due("no road", gate.road(0, 0), -2);
    Due.due("no caravan", gate.caravan(0, 0), -2);
    Due.due("dues without a law", gate.dues(1, 9, true), 1);
    Due.due("fault", gate.fault(0), 0);
    Due.due("place", gate.fault(1), -1);
    Due.due("x", gate.seed(0), 0);
  }

  private static void promise2() {
    OneGate gate = new OneGate();
    int blanks = 0x20202020;
    Due.due("first", gate.feed(0x746f776e, 0x7320333b, 0x6461790a, 0x3132333b, blanks), 20);
    Due.due("roads", gate.roads(20), 2);
    Due.due("towns 3", gate.count(0), 3);
    Due.due("day 123", gate.count(7), 123);
    for (int n = 20; n <= 900; n += 20) Due.due("feed", gate.feed(blanks, blanks, blanks, blanks, blanks), n);
    Due.due("more", gate.feed(blanks, blanks, blanks, blanks, blanks), -5);
    Due.due("bytes", gate.count(10), 900);
    gate.roads(900);
    Due.due("order of ints", gate.feed(0x746f776e, 0x73203b20, -1, -1, -1), 20);
    Due.due("roads", gate.roads(20), -32);
    Due.due("place", gate.fault(1), 6);
  }

  private static void promise3() {
    OneGate gate = Due.told("towns 3;road 0 to 1 days 1;caravan at 0 to 1 load 50;rate 4 at 1;day 31;");
    gate.seed(7);
    gate.send(0, 0);
    gate.days(1, false);
    Due.feed(gate, "towns 4;".getBytes());
    Due.due("below 0", gate.roads(-1), -3);
    Due.due("above", gate.roads(21), -3);
    Due.due("the tape stays", gate.count(10), 20);
    Due.due("not read", gate.fault(0), 0);
    Due.due("fault", gate.roads(7), -32);
    Due.due("empty then", gate.count(10), 0);
    Due.due("towns stay", gate.count(0), 3);
    Due.due("chests stay", gate.count(6), 4);
    Due.due("lines stay", gate.count(11), 5);
    Due.due("day stays", gate.count(7), 32);
    Due.due("undoing stays", gate.count(9), 3);
    Due.due("x stays", gate.seed(8), 7);
    Due.due("nothing on it", gate.roads(1), -3);
    Due.due("no text at all", gate.roads(0), -32);
    Due.due("place", gate.fault(1), 0);
    Due.due("a text", Due.tell(gate, "towns 4;"), 1);
    Due.due("towns", gate.count(0), 4);
    Due.due("no roads", gate.count(1), 0);
    Due.due("no caravans", gate.count(2), 0);
    Due.due("chests", gate.count(6), 0);
    Due.due("rates", gate.town(1, 0), 1);
    Due.due("day", gate.count(7), 0);
    Due.due("undoing", gate.count(9), 0);
    Due.due("x", gate.seed(0), 0);
    StringBuilder whole = new StringBuilder("towns 2;");
    while (whole.length() < 894) whole.append("day 3;");
    while (whole.length() < 900) whole.append(' ');
    Due.good(whole.toString(), 1 + (900 - 8) / 6);
    Due.good("towns 2;" + "day 3;".repeat(147) + "day   003;", 149);
    onlyTheFirst("towns 2;days", 11, 2, 11);
    onlyTheFirst("towns 22;", 7, 2, 7);
    onlyTheFirst("?", 0, 2, 0);
    onlyTheFirst("towns 2;day 1;", 13, 2, 13);
  }

  /** What is on the tape behind the first n bytes is no part of the text. */
  private static void onlyTheFirst(String tape, int n, int kind, int place) {
    OneGate gate = new OneGate();
    Due.feed(gate, tape.getBytes());
    Due.due("the first " + n + " of " + tape, gate.roads(n), -30 - kind);
    Due.due("place", gate.fault(1), place);
  }

  private static void laterOnesStrike() {
    OneGate gate = Due.told("towns 2;road 0 to 1 days 2 risk 3 sea risk 4 sea;rate 2 at 1;rate 3 at 0;rate 5 at 1;"
        + "dues:1;dues:2;eats:3;eats:4;opens:1=1;opens:1=2;day 5;day 6;");
    Due.due("lines", gate.count(11), 13);
    Due.due("risk", gate.road(0, 3), 4);
    Due.due("sea", gate.road(0, 4), 1);
    Due.due("rate 1", gate.town(1, 0), 5);
    Due.due("rate 0", gate.town(0, 0), 3);
    Due.due("dues", gate.dues(0, 9, false), 2);
    Due.due("eats", gate.eats(0, 9), 4);
    Due.due("opens", gate.open(0, 0), 0);
    Due.due("day", gate.count(7), 6);
    OneGate none = Due.told("towns 2;road 0 to 1 days 2 risk 3 risk 0;");
    Due.due("risk 0 strikes", none.road(0, 3), 0);
  }

  private static void tokens() {
    Due.good("towns2;road0to1days40risk10sea;", 2);
    Due.good("\n\n towns\n2 ; \n", 1);
    Due.good("towns 002;day 007;rate 009 at 001;", 3);
    Due.good("towns 6;road 5 to 0 days 01;caravan at 5 to 5 load 999;", 3);
  }

  private static void faultsOfTokens() {
    Due.badAt("^Towns 2;", 1);
    Due.badAt("towns 2;^R", 1);
    Due.badAt("towns 2;road 0 to 1 days ^1000;", 1);
    Due.badAt("towns 2;^0000", 1);
    Due.badAt("towns ^0002;", 1);
    Due.badAt("towns 2;\n^\tday 1;", 1);
    Due.badAt("towns 2^\r;", 1);
    Due.badAt("towns 2;^\u00e9", 1);
    Due.badAt("towns 2;^\u0000", 1);
    Due.badAt("towns 2;^.", 1);
    Due.badAt("towns 2;dues : 1 ^/ 2;", 1);
    Due.badAt("towns 2;dues : ^_;", 1);
    Due.badAt("towns 2;opens : 1 ^! 1;", 1);
    Due.badAt("towns 2;day ^\u007f;", 1);
    Due.badAt("towns 2;^{", 1);
    Due.badAt("towns 2;^`", 1);
    Due.badAt("towns 2;day 1^#", 1);
    Due.badAt("towns 2;^,", 1);
  }

  private static void faultsOfPlaces() {
    Due.badAt("   ^", 2);
    Due.badAt("^town 2;", 2);
    Due.badAt("^;", 2);
    Due.badAt("^day 1;towns 2;", 2);
    Due.badAt("towns ^;", 2);
    Due.badAt("towns 2 ^3;", 2);
    Due.badAt("towns 2;^towns 2;", 2);
    Due.badAt("towns 2;day 1^", 2);
    Due.badAt("towns 2;day 1 \n^", 2);
    Due.badAt("towns 2;day ^;", 2);
    Due.badAt("towns 2;day 1 ^2;", 2);
    Due.badAt("towns 2;^days 1;", 2);
    Due.badAt("towns 2;^000", 2);
    Due.badAt("towns 2;^;", 2);
    Due.badAt("towns 2;^sea;", 2);
    Due.badAt("towns 2;^zeal 1;", 2);
    Due.badAt("towns 2;^dayz 1;", 2);
    Due.badAt("towns 2;road ^;", 2);
    Due.badAt("towns 2;caravan ^;", 2);
    Due.badAt("towns 2;rate ^;", 2);
    Due.badAt("towns 2;dues ^;", 2);
    Due.badAt("towns 2;opens ^;", 2);
    Due.badAt("towns 2;opens : ^;", 2);
    Due.badAt("towns 2;opens : 1 = 1 or ^;", 2);
    Due.badAt("towns 2;opens : 1 = 1 and ^;", 2);
    Due.badAt("towns 2;opens : 1 = ^;", 2);
    Due.badAt("towns 2;opens : not ^;", 2);
    Due.badAt("towns 2;opens : [ ^;", 2);
    Due.badAt("towns 2;road ^to 1 days 1;", 2);
    Due.badAt("towns 2;road 0 ^at 1 days 1;", 2);
    Due.badAt("towns 2;road 0 to 1 ^day 1;", 2);
    Due.badAt("towns 2;road 0 to 1 days ^risk 1;", 2);
    Due.badAt("towns 2;road 0 to 1 days 1 risk ^;", 2);
    Due.badAt("towns 2;road 0 to 1 days 1 risk ^sea;", 2);
    Due.badAt("towns 2;road 0 to 1 days 1 ^2;", 2);
    Due.badAt("towns 2;road 0 to 1 days 1 sea ^road", 2);
    Due.badAt("towns 2;caravan ^0 to 1 load 1;", 2);
    Due.badAt("towns 2;caravan at 0 ^at 1 load 1;", 2);
    Due.badAt("towns 2;caravan at 0 to 1 ^1;", 2);
    Due.badAt("towns 2;caravan at 0 to 1 load ^;", 2);
    Due.badAt("towns 2;caravan at 0 to 1 load 1 ^sea;", 2);
    Due.badAt("towns 2;rate ^at 1;", 2);
    Due.badAt("towns 2;rate 1 ^to 1;", 2);
    Due.badAt("towns 2;rate 1 at ^;", 2);
  }

  private static void faultsOfBounds() {
    Due.badAt("towns ^1;", 3);
    Due.badAt("towns ^7;", 3);
    Due.badAt("towns ^999", 3);
    Due.badAt("towns 3;road ^3 to 0 days 1;", 3);
    Due.badAt("towns 3;road 0 to ^3 days 1;", 3);
    Due.badAt("towns 3;road 2 to ^2 days 1;", 3);
    Due.badAt("towns 3;road 2 to ^02 .", 3);
    Due.badAt("towns 3;road 0 to 1 days ^0;", 3);
    Due.badAt("towns 3;road 0 to 1 days ^41;", 3);
    Due.badAt("towns 3;road 0 to 1 days 40 risk ^11;", 3);
    Due.badAt("towns 3;caravan at ^3 to 0 load 1;", 3);
    Due.badAt("towns 3;caravan at 0 to ^3 load 1;", 3);
    Due.badAt("towns 3;caravan at 0 to 1 load ^0;", 3);
    Due.badAt("towns 3;rate ^10 at 0;", 3);
    Due.badAt("towns 3;rate 9 at ^3;", 3);
  }

  private static void faultsOfTooMany() {
    String road = "road 0 to 1 days 1;";
    String caravan = "caravan at 0 to 1 load 1;";
    Due.good("towns 2;" + road.repeat(10) + caravan.repeat(6), 17);
    Due.badAt("towns 2;" + road.repeat(10) + "day 1;^" + road, 4);
    Due.badAt("towns 2;" + road.repeat(10) + "^road .", 4);
    Due.badAt("towns 2;" + caravan.repeat(6) + "day 1;^" + caravan, 4);
    Due.badAt("towns 2;" + road.repeat(10) + "^.", 1);
    Due.good("towns 2;dues : ((((((1))))));", 2);
    Due.badAt("towns 2;dues : ((((((^(1)))))));", 4);
    Due.badAt("towns 2;dues : 1 + 2 * ((((((3 - ^(", 4);
    Due.good("towns 2;dues : (1)+(1)+(1)+(1)+(1)+(1)+(1)*(1);", 2);
    Due.good("towns 2;opens : not not not not not not 1 = 1;", 2);
    Due.badAt("towns 2;opens : not not not not not not ^not 1 = 1;", 4);
    Due.badAt("towns 2;opens : not not not not not not ^[1 = 1];", 4);
    Due.badAt("towns 2;opens : not not not not not not ^(1) = 1;", 4);
    Due.good("towns 2;opens : [[[[[[1 = 1]]]]]] and [1 = 1] or not 1 = 1;", 2);
    Due.badAt("towns 2;opens : [[[[[[^[1 = 1]]]]]]];", 4);
    Due.good("towns 2;opens : not [ not [ ((1)) = (1) ] ];", 2);
    Due.badAt("towns 2;opens : not [ not [ ((1)) = ((^(1))) ] ];", 4);
    Due.badAt("towns 2;opens : 1 = ((((((^(", 4);
    Due.good("towns 2;opens : not 1=1 and not 1=1 and not 1=1 and not 1=1 and not 1=1 and not 1=1 or not 1=1;", 2);
    Due.badAt("towns 2;dues : ((((((1 ^(", 2);
    Due.badAt("towns 2;dues : ((((((^not", 2);
    Due.badAt("towns 2;opens : [[[[[[1 = ^[", 2);
  }

  private static void faultsOfLaws() {
    Due.good("towns 2;dues : month + sea - town * rate + load;", 2);
    Due.good("towns 2;eats : month + sea - road * load;", 2);
    Due.good("towns 2;opens : month = sea or road < 999 and 0 > 1;", 2);
    Due.badAt("towns 2;dues : ^road;", 2);
    Due.badAt("towns 2;eats : ^town;", 2);
    Due.badAt("towns 2;eats : ^rate;", 2);
    Due.badAt("towns 2;opens : ^town = 1;", 2);
    Due.badAt("towns 2;opens : 1 = ^rate;", 2);
    Due.badAt("towns 2;opens : ^load = 1;", 2);
    Due.badAt("towns 2;opens : [1 = ^load];", 2);
    Due.badAt("towns 2;dues ^1;", 2);
    Due.badAt("towns 2;eats : ^;", 2);
    Due.badAt("towns 2;eats : ^- 1;", 2);
    Due.badAt("towns 2;eats : 1 + ^;", 2);
    Due.badAt("towns 2;eats : 1 * ^+ 1;", 2);
    Due.badAt("towns 2;eats : 1 ^1;", 2);
    Due.badAt("towns 2;eats : (1 ^;", 2);
    Due.badAt("towns 2;eats : 1^);", 2);
    Due.badAt("towns 2;eats : (^);", 2);
    Due.badAt("towns 2;eats : 1 ^= 1;", 2);
    Due.badAt("towns 2;eats : ^[1];", 2);
    Due.badAt("towns 2;eats : ^not 1;", 2);
    Due.badAt("towns 2;eats : 1 ^and 1;", 2);
    Due.badAt("towns 2;eats : 1 ^sea;", 2);
    Due.badAt("towns 2;opens : 1 = 1 ^= 1;", 2);
    Due.badAt("towns 2;opens : (1 ^= 1);", 2);
    Due.badAt("towns 2;opens : [1^] = 1;", 2);
    Due.badAt("towns 2;opens : [1 = 1^;", 2);
    Due.badAt("towns 2;opens : 1 = 1^];", 2);
    Due.badAt("towns 2;opens : 1^;", 2);
    Due.badAt("towns 2;opens : 1 = 1 and ^or 1 = 1;", 2);
    Due.badAt("towns 2;opens : 1 = 1 ^not", 2);
    Due.badAt("towns 2;opens : not^", 2);
    Due.badAt("towns 2;opens : ^and 1 = 1;", 2);
  }

  private static void promise4() {
    OneGate gate = new OneGate();
    Due.tell(gate, "towns 2;day ;");
    Due.due("fault", gate.fault(0), 2);
    Due.due("place", gate.fault(1), 12);
    Due.due("others", gate.fault(2), -1);
    Due.due("others", gate.fault(-1), -1);
    Due.due("not read", gate.roads(1), -3);
    Due.due("still", gate.fault(0), 2);
    gate.image(0);
    Due.tell(gate, "towns 2;day 1;");
    Due.due("no fault", gate.fault(0), 0);
    Due.due("no place", gate.fault(1), -1);
    Due.tell(gate, "towns 9;");
    gate.restore(0);
    Due.due("no part of an image", gate.fault(0), 3);
  }

  private static final String LAND = "towns 4;road 0 to 1 days 3;road 1 to 2 days 2 risk 2;road 0 to 2 days 4 sea;"
      + "road 2 to 3 days 1;road 0 to 3 days 9 risk 5 sea;caravan at 0 to 3 load 100;caravan at 1 to 2 load 50;"
      + "caravan at 0 to 0 load 7;rate 5 at 1;rate 2 at 2;day 25;";

  private static void promise5() {
    OneGate gate = Due.told(LAND);
    Due.due("rate", gate.town(1, 0), 5);
    Due.due("rate told by none", gate.town(3, 0), 1);
    Due.due("chest", gate.town(1, 1), 0);
    Due.due("roads", gate.town(0, 2), 1 + 4 + 16);
    Due.due("no roads", gate.town(3, 2), 0);
    Due.due("caravans", gate.town(0, 3), 1 + 4);
    gate.send(0, 0);
    Due.due("one is on a road", gate.town(0, 3), 4);
    gate.days(3, false);
    Due.due("it came", gate.town(1, 3), 1 + 2);
    Due.due("chest", gate.town(1, 1), 5);
    Due.due("town", gate.town(4, 0), -2);
    Due.due("town", gate.town(-1, 0), -2);
    Due.due("what", gate.town(0, 4), -2);
    Due.due("what", gate.town(0, -1), -2);
  }

  private static void promise6() {
    OneGate gate = Due.told(LAND);
    int[] road4 = {0, 3, 9, 5, 1};
    int[] road3 = {2, 3, 1, 0, 0};
    for (int what = 0; what < 5; what++) {
      Due.due("road 4", gate.road(4, what), road4[what]);
      Due.due("road 3", gate.road(3, what), road3[what]);
    }
    Due.due("no such", gate.road(5, 0), -2);
    Due.due("no such", gate.road(-1, 0), -2);
    Due.due("what", gate.road(0, 5), -2);
    Due.due("what", gate.road(0, -1), -2);
  }

  private static void promise7() {
    OneGate gate = Due.told(LAND);
    int[] there = {0, -1, 0, 3, 100};
    for (int what = 0; what < 5; what++) Due.due("in a town", gate.caravan(0, what), there[what]);
    gate.send(0, 2);
    int[] under = {-1, 2, 4, 3, 100};
    for (int what = 0; what < 5; what++) Due.due("on a road", gate.caravan(0, what), under[what]);
    gate.days(3, false);
    Due.due("a day left", gate.caravan(0, 2), 1);
    gate.days(1, false);
    int[] came = {2, -1, 0, 3, 98};
    for (int what = 0; what < 5; what++) Due.due("arrived", gate.caravan(0, what), came[what]);
    Due.due("no such", gate.caravan(3, 0), -2);
    Due.due("no such", gate.caravan(-1, 0), -2);
    Due.due("what", gate.caravan(0, 5), -2);
    Due.due("what", gate.caravan(0, -1), -2);
  }

  private static void promise8() {
    OneGate gate = Due.told("towns 3;rate 7 at 2;dues : town * 100 + rate * 10 + sea * 3 + month;day 60;");
    Due.due("by land", gate.dues(2, 999, false), 200 + 70 + 2);
    Due.due("by sea", gate.dues(2, 999, true), 200 + 70 + 3 + 2);
    Due.due("the load at most", gate.dues(2, 250, false), 250);
    Due.due("of nothing", gate.dues(2, 0, true), 0);
    Due.due("town", gate.dues(3, 5, true), -2);
    Due.due("town", gate.dues(-1, 1000, true), -2);
    Due.due("load", gate.dues(0, 1000, true), -3);
    Due.due("load", gate.dues(0, -1, true), -3);
    gate.rate(2, 0);
    Due.due("another rate", gate.dues(2, 999, false), 202);
    OneGate less = Due.told("towns 2;dues : load - 10;");
    Due.due("0 at least", less.dues(0, 4, false), 0);
    Due.due("of the load", less.dues(0, 14, false), 4);
    OneGate none = Due.told("towns 2;rate 6 at 0;");
    Due.due("the rate", none.dues(0, 999, true), 6);
    Due.due("the load at most", none.dues(0, 4, true), 4);
  }

  private static void promise9() {
    OneGate gate = Due.told("towns 2;road 0 to 1 days 1;road 1 to 0 days 1 sea;eats : road * 100 + sea * 10 + month + load * 2;day 359;");
    Due.due("by land", gate.eats(0, 9), 9);
    Due.due("by sea", gate.eats(1, 400), 400);
    OneGate plain = Due.told("towns 2;road 0 to 1 days 1;road 1 to 0 days 1 sea;eats : road * 100 + sea * 10 + month - 5 + load - load;day 359;");
    Due.due("by land", plain.eats(0, 9), 6);
    Due.due("by sea", plain.eats(1, 400), 116);
    Due.due("the load at most", plain.eats(1, 4), 4);
    Due.due("of nothing", plain.eats(1, 0), 0);
    Due.due("of little", plain.eats(1, 1), 1);
    plain.days(1, false);
    Due.due("0 at least", plain.eats(0, 999), 0);
    Due.due("month 0 again", plain.eats(1, 999), 105);
    Due.due("road", plain.eats(2, 5), -2);
    Due.due("road", plain.eats(-1, -5), -2);
    Due.due("load", plain.eats(0, 1000), -3);
    Due.due("load", plain.eats(0, -1), -3);
    Due.due("without a law", Due.told("towns 2;road 0 to 1 days 1;").eats(0, 50), 0);
  }

  private static void promise10() {
    OneGate gate = Due.told("towns 2;road 0 to 1 days 1;road 1 to 0 days 1 sea;"
        + "opens : sea = 0 and [ month < 2 or month > 10 ] or road = 1 and not month = 0;day 29;");
    Due.due("month 0", gate.open(0, 0), 1);
    Due.due("month 0", gate.open(1, 0), 0);
    Due.due("month 1", gate.open(1, 1), 1);
    Due.due("month 1", gate.open(0, 30), 1);
    Due.due("month 2", gate.open(0, 31), 0);
    Due.due("month 10", gate.open(0, 300), 0);
    Due.due("month 11", gate.open(0, 301), 1);
    Due.due("month 0 again", gate.open(1, 331), 0);
    Due.due("far", gate.open(0, 999), 0);
    Due.due("too far", gate.open(0, 1000), -3);
    Due.due("below", gate.open(0, -1), -3);
    Due.due("road", gate.open(2, 1000), -2);
    Due.due("road", gate.open(-1, 0), -2);
    gate.days(1, false);
    Due.due("a day later", gate.open(1, 0), 1);
    Due.due("without a law", Due.told("towns 2;road 0 to 1 days 1;").open(0, 999), 1);
    truth("1 = 1 or 1 = 1 and 1 = 2", 1);
    truth("[1 = 1 or 1 = 1] and 1 = 2", 0);
    truth("not 1 = 2 and 1 = 2", 0);
    truth("not [1 = 2 and 1 = 2]", 1);
    truth("not not 1 = 2", 0);
    truth("2 + 3 * 4 = 14", 1);
    truth("(2 + 3) * 4 = 20", 1);
    truth("9 - 4 - 3 = 2", 1);
    truth("3 < 3", 0);
    truth("2 < 3", 1);
    truth("3 > 3", 0);
    truth("0 - 3 > 0 - 4", 1);
  }

  private static void truth(String law, int want) {
    OneGate gate = Due.told("towns 2;road 0 to 1 days 1;opens : " + law + ";");
    Due.due(law, gate.open(0, 0), want);
  }

  private static void sumsAreKept() {
    truth("999 * 999 + 999 = 998 * 999 + 999 + 999", 1);
    truth("999 * 999 * 2 = 999 * 999 * 3", 1);
    truth("999 * 999 * 2 = 100 * 100 * 100", 1);
    truth("100 * 100 * 100 + 1 = 100 * 100 * 100", 1);
    truth("100 * 100 * 100 + 1 - 1 = 100 * 100 * 100 - 1", 1);
    truth("0 - 999 * 999 * 2 = 0 - 100 * 100 * 100", 1);
    truth("0 - 100 * 100 * 100 - 1 = 0 - 100 * 100 * 100", 1);
    truth("(0 - 100 * 100 * 100) * (100 * 100 * 100) = 0 - 100 * 100 * 100", 1);
    truth("(0 - 100 * 100 * 100) * (0 - 100 * 100 * 100) = 100 * 100 * 100", 1);
    truth("100 * 100 * 100 - 1 < 100 * 100 * 100", 1);
  }
}
