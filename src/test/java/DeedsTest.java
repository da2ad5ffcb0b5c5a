/** Promises 11 to 19: caravans started and sent, rates set, days gone by, undone, judged, performed, years. */
public final class DeedsTest {
  public static void main(String[] args) {
    promise11();
    promise12();
    promise13();
    promise14();
    promise15();
    robbers();
    byNumbers();
    promise16();
    promise17();
    promise18();
    promise19();
    yearByHand();
    refusedChangeNothing();
    Due.end();
  }

  private static int nextX(int x) {
    return (int) (1103515245L * x + 12345L);
  }

  private static int drawOf(int x) {
    return (int) (Math.floorMod((long) x, 1L << 32) / 65536);
  }

  private static final String LAND = "towns 3;road 0 to 1 days 2;road 1 to 2 days 1;road 0 to 2 days 5 sea;"
      + "caravan at 0 to 2 load 100;dues : rate + month * 10;eats : month + 1;opens : sea = 0 or month = 1;day 28;";

  private static void promise11() {
    OneGate gate = new OneGate();
    Due.due("0 at first", gate.seed(5), 0);
    Due.due("what it was", gate.seed(-7), 5);
    Due.due("negative too", gate.seed(0), -7);
    Due.due("each a deed", gate.count(9), 3);
    Due.due("the latest undone", gate.undo(1), 2);
    Due.due("x as it was", gate.seed(6), -7);
    Due.due("two at once", gate.undo(2), 1);
    Due.due("x as it was", gate.seed(6), 5);
    Due.due("all", gate.undo(2), 0);
    Due.due("x as at first", gate.seed(0), 0);
    Due.due("a deed too if x stays", gate.count(9), 1);
  }

  private static void promise12() {
    OneGate gate = Due.told(LAND);
    Due.due("number", gate.start(2, 2, 999), 1);
    Due.due("there", gate.count(3), 2);
    Due.due("number", gate.start(1, 0, 1), 2);
    int[] fresh = {1, -1, 0, 0, 1};
    for (int what = 0; what < 5; what++) Due.due("as told", gate.caravan(2, what), fresh[what]);
    Due.due("at", gate.start(3, 0, 0), -2);
    Due.due("at", gate.start(-1, 0, 1), -2);
    Due.due("to", gate.start(0, 3, 1), -2);
    Due.due("to", gate.start(0, -1, 1), -2);
    Due.due("load", gate.start(0, 1, 0), -3);
    Due.due("load", gate.start(0, 1, 1000), -3);
    for (int c = 3; c < 6; c++) Due.due("number", gate.start(0, 1, 5), c);
    Due.due("six", gate.start(0, 1, 5), -4);
    Due.due("load ahead", gate.start(0, 1, 0), -3);
    Due.due("town ahead", gate.start(0, 9, 5), -2);
    Due.due("six", gate.count(2), 6);
    Due.due("loads", gate.count(5), 100 + 999 + 1 + 15);
    Due.due("deeds", gate.count(9), 5);
    gate.undo(1);
    Due.due("room again", gate.start(1, 1, 8), 5);
  }

  private static void promise13() {
    OneGate gate = Due.told(LAND);
    Due.due("caravan", gate.send(1, 0), -11);
    Due.due("caravan", gate.send(-1, 0), -11);
    Due.due("road", gate.send(0, 3), -11);
    Due.due("road", gate.send(0, -1), -11);
    Due.due("elsewhere", gate.send(0, 1), -12);
    Due.due("shut", gate.send(0, 2), -13);
    Due.due("nothing done", gate.count(9), 0);
    Due.due("days ahead", gate.send(0, 0), 2);
    Due.due("on a road", gate.send(0, 0), -12);
    Due.due("on a road, shut", gate.send(0, 2), -12);
    gate.undo(1);
    gate.days(2, false);
    Due.due("open in month 1", gate.send(0, 2), 5);
    Due.due("bits", gate.count(4), 1);
    OneGate there = Due.told("towns 2;road 0 to 1 days 3;caravan at 0 to 0 load 1;");
    Due.due("on from where it goes", there.send(0, 0), 3);
  }

  private static void promise14() {
    OneGate gate = Due.told(LAND);
    Due.due("was", gate.rate(2, 9), 1);
    Due.due("was", gate.rate(2, 0), 9);
    Due.due("is", gate.town(2, 0), 0);
    Due.due("others", gate.town(1, 0), 1);
    Due.due("the same", gate.rate(2, 0), 0);
    Due.due("deeds", gate.count(9), 3);
    Due.due("town", gate.rate(3, 10), -2);
    Due.due("town", gate.rate(-1, 1), -2);
    Due.due("rate", gate.rate(0, 10), -3);
    Due.due("rate", gate.rate(0, -1), -3);
  }

  private static void promise15() {
    OneGate gate = Due.told(LAND);
    gate.send(0, 0);
    Due.due("none yet", gate.days(1, true), 0);
    Due.due("eaten in month 0", gate.caravan(0, 4), 99);
    Due.due("left", gate.caravan(0, 2), 1);
    Due.due("arrived", gate.days(1, true), 1);
    Due.due("eaten, then taken on day 29", gate.caravan(0, 4), 97);
    Due.due("chest", gate.town(1, 1), 1);
    Due.due("day", gate.count(7), 30);
    Due.due("month", gate.count(8), 1);
    gate.send(0, 1);
    Due.due("arrived", gate.days(1, true), 1);
    Due.due("month 1", gate.caravan(0, 4), 97 - 2 - 11);
    Due.due("chest", gate.town(2, 1), 11);
    Due.due("in towns nothing is eaten", gate.days(99, false), 0);
    Due.due("load", gate.caravan(0, 4), 84);
    Due.due("day", gate.count(7), 130);
    Due.due("no draws without risk", gate.seed(0), 0);
    Due.due("none", gate.days(0, true), -3);
    Due.due("many", gate.days(100, true), -3);
    Due.due("below", gate.days(-1, true), -3);
    OneGate eaten = Due.told("towns 2;road 0 to 1 days 3;caravan at 0 to 1 load 7;eats : load - 3;dues : 9;");
    eaten.send(0, 0);
    eaten.days(1, false);
    Due.due("of the load", eaten.caravan(0, 4), 3);
    Due.due("arrived", eaten.days(9, false), 1);
    Due.due("all taken", eaten.count(5), 0);
    Due.due("into the chest", eaten.count(6), 3);
    Due.due("there", eaten.count(3), 1);
  }

  private static void robbers() {
    String road = "towns 2;road 0 to 1 days 2 risk 4;caravan at 0 to 1 load 59;eats : 1;dues : sea * 9 + 2;";
    int robbed = 0;
    for (int seed = -20; seed < 20; seed++) {
      OneGate gate = Due.told(road);
      gate.seed(seed);
      gate.send(0, 0);
      gate.days(1, true);
      int x = nextX(seed);
      boolean by = drawOf(x) % 10 < 4;
      robbed += by ? 1 : 0;
      Due.due("arrived", gate.days(1, true), 1);
      Due.due("seed " + seed, gate.caravan(0, 4), (by ? 57 - 5 : 57) - 2);
      Due.due("drawn once", gate.seed(0), x);
    }
    Due.due("some are robbed, some not", robbed > 5 && robbed < 35 ? 1 : 0, 1);
    OneGate without = Due.told(road);
    without.send(0, 0);
    without.days(2, false);
    Due.due("without robbers", without.caravan(0, 4), 55);
    Due.due("not drawn", without.seed(0), 0);
    OneGate sure = Due.told("towns 2;road 0 to 1 days 1 risk 10;caravan at 0 to 1 load 19;dues : 0;");
    sure.send(0, 0);
    sure.days(1, true);
    Due.due("always", sure.caravan(0, 4), 18);
    Due.due("drawn all the same", sure.seed(0), 12345);
    OneGate rare = Due.told("towns 2;road 0 to 1 days 1 risk 1;caravan at 0 to 1 load 19;dues : 0;");
    rare.send(0, 0);
    rare.days(1, true);
    Due.due("a draw of 0", rare.caravan(0, 4), 18);
    OneGate few = Due.told("towns 2;road 0 to 1 days 1 risk 10 sea;caravan at 0 to 1 load 9;dues : sea * 5;");
    few.send(0, 0);
    few.days(1, true);
    Due.due("a tenth of 9, cut", few.caravan(0, 4), 4);
  }

  /** Two that arrive on a day: the lower number draws first. */
  private static void byNumbers() {
    int seed = 0;
    while (drawOf(nextX(seed)) % 10 >= 5 || drawOf(nextX(nextX(seed))) % 10 < 5) seed++;
    OneGate gate = Due.told("towns 3;road 0 to 1 days 2 risk 5;road 2 to 1 days 1 risk 5;"
        + "caravan at 0 to 1 load 100;caravan at 2 to 1 load 100;dues : 0;");
    gate.seed(seed);
    gate.send(0, 0);
    gate.days(1, true);
    gate.send(1, 1);
    Due.due("both", gate.days(1, true), 2);
    Due.due("robbed", gate.caravan(0, 4), 90);
    Due.due("not robbed", gate.caravan(1, 4), 100);
  }

  private static void promise16() {
    OneGate gate = Due.told("towns 2;road 0 to 1 days 1 risk 10;caravan at 0 to 1 load 100;rate 3 at 1;");
    Due.due("nothing", gate.undo(1), -3);
    gate.seed(77);
    gate.send(0, 0);
    gate.days(1, true);
    gate.rate(1, 8);
    gate.start(1, 0, 5);
    Due.due("five", gate.count(9), 5);
    Due.due("n", gate.undo(0), -3);
    Due.due("n", gate.undo(-1), -3);
    Due.due("more than can be", gate.undo(6), -3);
    Due.due("the latest", gate.undo(1), 4);
    Due.due("caravans", gate.count(2), 1);
    Due.due("rate", gate.town(1, 0), 8);
    Due.due("two more", gate.undo(2), 2);
    Due.due("rate", gate.town(1, 0), 3);
    Due.due("chest", gate.town(1, 1), 0);
    Due.due("day", gate.count(7), 0);
    Due.due("load", gate.caravan(0, 4), 100);
    Due.due("on the road", gate.caravan(0, 1), 0);
    Due.due("left", gate.caravan(0, 2), 1);
    Due.due("x", gate.seed(78), 77);
    Due.due("the seed alone", gate.undo(1), 2);
    Due.due("still on the road", gate.caravan(0, 1), 0);
    Due.due("sent", gate.undo(1), 1);
    Due.due("in the town", gate.caravan(0, 0), 0);
    Due.due("x as it was ahead of it", gate.seed(0), 77);
    Due.due("both seeds", gate.undo(2), 0);
    Due.due("x as told by the text", gate.seed(5), 0);
    Due.due("undone", gate.undo(1), 0);
    for (int i = 0; i < 12; i++) {
      gate.rate(0, i % 10);
      Due.due("ten at most", gate.count(9), Math.min(10, i + 1));
    }
    Due.due("eleven", gate.undo(11), -3);
    Due.due("ten", gate.undo(10), 0);
    Due.due("the eldest are forgotten", gate.town(0, 0), 1);
    Due.due("no more", gate.undo(1), -3);
    for (int i = 0; i < 25; i++) gate.rate(0, i % 10);
    for (int i = 23; i > 13; i--) {
      Due.due("one by one", gate.undo(1), i - 14);
      Due.due("rate " + i, gate.town(0, 0), i % 10);
    }
    seedsAreForgottenToo();
  }

  private static void seedsAreForgottenToo() {
    OneGate gate = new OneGate();
    gate.rate(0, 7);
    for (int i = 1; i <= 10; i++) gate.seed(i);
    Due.due("ten at most", gate.count(9), 10);
    Due.due("all of them", gate.undo(10), 0);
    Due.due("the rate was the eldest", gate.town(0, 0), 7);
    Due.due("x ahead of the seeds", gate.seed(0), 0);
  }

  private static final String TWO = "towns 3;road 0 to 1 days 2 risk 5;road 1 to 2 days 1;road 2 to 0 days 3 sea;"
      + "caravan at 0 to 2 load 100;caravan at 2 to 0 load 40;dues : rate;eats : 1;opens : sea = 0 or month > 0;";

  private static void judged(String told, OneGate gate, int place, int why, int loads, int chests) {
    Due.due(told + " place", gate.judge(0, 0), place);
    Due.due(told + " why", gate.judge(0, 1), why);
    Due.due(told + " loads", gate.judge(0, 2), loads);
    Due.due(told + " chests", gate.judge(0, 3), chests);
  }

  private static void promise17() {
    OneGate gate = Due.told(TWO);
    Due.due("missing", gate.judge(0, 0), -6);
    Due.due("what ahead", gate.judge(0, 4), -2);
    Due.due("what", gate.judge(0, -1), -2);
    Due.due("tray", gate.judge(4, 0), -2);
    Due.due("tray", gate.judge(-1, 0), -2);
    Due.write(gate, 0, 1);
    judged("none", gate, -1, 0, 140, 0);
    Due.write(gate, 0, 1, 0, -1, -1, 117, 1, -1, 200);
    judged("all", gate, -1, 0, 140 - 2 - 1 - 1 - 1, 2);
    Due.due("as if", gate.count(7), 0);
    Due.due("as if", gate.count(4), 0);
    Due.write(gate, 0, 1, -1, 0, 1);
    judged("on a road", gate, 2, 2, 140, 0);
    Due.write(gate, 0, 1, 20);
    judged("no such caravan", gate, 0, 1, 140, 0);
    Due.write(gate, 0, 1, 3);
    judged("no such road", gate, 0, 1, 140, 0);
    Due.write(gate, 0, 1, 130);
    judged("no such town", gate, 0, 1, 140, 0);
    Due.write(gate, 0, 1, 199);
    judged("no such town", gate, 0, 1, 140, 0);
    Due.write(gate, 0, 1, 129, 12);
    judged("shut", gate, 1, 3, 140, 0);
    Due.write(gate, 0, 1, 201);
    judged("no such number", gate, 0, 1, 140, 0);
    Due.write(gate, 0, 1, -2);
    judged("no such number", gate, 0, 1, 140, 0);
    Due.write(gate, 0, 0, 200);
    judged("cut to 8 bits", gate, 0, 1, 140, 0);
    Due.write(gate, 0, 3, 200, (1L << 32) + 200);
    judged("64 bits are looked at", gate, 1, 1, 140, 0);
    Due.write(gate, 0, 3, 200, 1L << 32);
    judged("64 bits are looked at", gate, 1, 1, 140, 0);
    Due.write(gate, 0, 3, -1, (1L << 32) - 1);
    judged("64 bits are looked at", gate, 1, 1, 140, 0);
    int seed = 0;
    while (drawOf(nextX(seed)) % 10 >= 5) seed++;
    gate.seed(seed);
    Due.write(gate, 0, 2, 0, 200, 200);
    judged("drawn", gate, -1, 0, 140 - 2 - 9 - 1, 1);
    judged("drawn alike again", gate, -1, 0, 140 - 2 - 9 - 1, 1);
    Due.due("no deed but the seed", gate.count(9), 1);
    Due.due("x stays", gate.seed(0), seed);
  }

  private static void promise18() {
    OneGate gate = Due.told(TWO);
    Due.due("missing", gate.perform(0), -6);
    Due.due("tray", gate.perform(4), -2);
    Due.due("tray", gate.perform(-1), -2);
    Due.write(gate, 0, 1);
    Due.due("none", gate.perform(0), 0);
    Due.due("no deed", gate.count(9), 0);
    Due.write(gate, 0, 1, 0, -1, -1, 117, 1, -1, 12, -1);
    Due.due("till one can't be", gate.perform(0), 6);
    Due.due("day", gate.count(7), 3);
    Due.due("rate", gate.town(1, 0), 7);
    Due.due("there", gate.count(3), 1);
    Due.due("one call", gate.count(9), 1);
    Due.due("the rest is not done", gate.perform(0), 0);
    Due.due("no deed", gate.count(9), 1);
    Due.due("undone as a whole", gate.undo(1), 0);
    Due.due("day", gate.count(7), 0);
    Due.due("rate", gate.town(1, 0), 1);
    Due.due("load", gate.caravan(0, 4), 100);
    gate.start(1, 2, 30);
    gate.start(0, 2, 30);
    Due.write(gate, 1, 1, 30);
    Due.due("one alone", gate.perform(1), 1);
    Due.due("caravan 3 on road 0", gate.caravan(3, 1), 0);
    Due.due("one more call", gate.count(9), 3);
    Due.write(gate, 1, 1, 21);
    Due.due("one alone", gate.perform(1), 1);
    Due.due("caravan 2 on road 1", gate.caravan(2, 1), 1);
    gate.undo(4);
    Due.write(gate, 1, 1, 0, 200, 200);
    gate.seed(3);
    Due.due("with robbers", gate.perform(1), 3);
    Due.due("drawn once", gate.seed(0), nextX(3));
  }

  private static void promise19() {
    OneGate gate = Due.told(TWO);
    Due.due("times", gate.year(1, 0), -3);
    Due.due("times", gate.year(1, 41), -3);
    Due.due("times", gate.year(1, -1), -3);
    int none = 0;
    while (drawOf(nextX(none)) % 4 != 2 || drawOf(nextX(nextX(none))) % 10 < 2) none++;
    gate.seed(9);
    Due.due("none could be", gate.year(none, 1), 0);
    Due.due("nothing changes but by the seed", gate.count(9), 1);
    Due.due("x neither", gate.seed(9), 9);
    int day = 0;
    while (drawOf(nextX(day)) % 4 > 1) day++;
    Due.due("a day", gate.year(day, 1), 1);
    Due.due("day", gate.count(7), 1);
    Due.due("one call", gate.count(9), 3);
    Due.due("x", gate.seed(4), nextX(day));
    Due.due("undone, the seed behind it too", gate.undo(2), 2);
    Due.due("x as ahead of it", gate.seed(4), 9);
    int sent = 0;
    while (drawOf(nextX(sent)) % 4 != 2 || drawOf(nextX(nextX(sent))) % 10 != 0
        || drawOf(nextX(nextX(nextX(sent)))) % 10 != 0) sent++;
    Due.due("sent", gate.year(sent, 1), 1);
    Due.due("on road 0", gate.caravan(0, 1), 0);
    int rate = 0;
    while (drawOf(nextX(rate)) % 4 != 3 || drawOf(nextX(nextX(rate))) % 10 != 2
        || drawOf(nextX(nextX(nextX(rate)))) % 10 != 8) rate++;
    Due.due("a rate", gate.year(rate, 1), 1);
    Due.due("of town 2", gate.town(2, 0), 8);
    Due.due("40 times", gate.year(12, 40) > 10 ? 1 : 0, 1);
  }

  /** A long year, drawn along by hand on a second object with single calls. */
  private static void yearByHand() {
    for (int seed = 1; seed < 60; seed++) {
      OneGate gate = Due.told(TWO);
      OneGate hand = Due.told(TWO);
      int x = seed;
      int done = 0;
      for (int i = 0; i < 40; i++) {
        x = nextX(x);
        int kind = drawOf(x) % 4;
        if (kind < 2) {
          hand.seed(x);
          hand.days(1, true);
          x = hand.seed(0);
          done++;
          continue;
        }
        x = nextX(x);
        int a = drawOf(x) % 10;
        x = nextX(x);
        int b = drawOf(x) % 10;
        done += (kind == 2 ? hand.send(a, b) : hand.rate(a, b)) >= 0 ? 1 : 0;
      }
      Due.due("year " + seed, gate.year(seed, 40), done);
      Due.due("x " + seed, gate.seed(0), x);
      for (int what = 3; what <= 8; what++) Due.due("count of year " + seed, gate.count(what), hand.count(what));
      for (int t = 0; t < 3; t++) Due.due("rates of year " + seed, gate.town(t, 0), hand.town(t, 0));
    }
  }

  private static void refusedChangeNothing() {
    OneGate gate = Due.told(TWO);
    gate.rate(0, 5);
    gate.start(9, 0, 1);
    gate.start(0, 0, 0);
    gate.send(0, 1);
    gate.send(9, 9);
    gate.rate(0, 10);
    gate.days(0, true);
    gate.undo(2);
    gate.perform(0);
    gate.judge(0, 0);
    gate.year(5, 0);
    Due.due("caravans", gate.count(2), 2);
    Due.due("on roads", gate.count(4), 0);
    Due.due("day", gate.count(7), 0);
    Due.due("deeds", gate.count(9), 1);
    Due.due("rate", gate.town(0, 0), 5);
    Due.due("x", gate.seed(0), 0);
  }
}
