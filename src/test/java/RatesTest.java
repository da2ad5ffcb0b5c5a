/** Promises 28 to 32: what towns take and what arrives, if all go their best ways; rates and who is tempted. */
public final class RatesTest {
  public static void main(String[] args) {
    fork();
    grasping();
    whoCounts();
    asToday();
    withoutRates();
    asManyAsCanBe();
    Due.end();
  }

  /** From 0 by 1 or by 2 to 3. */
  private static final String FORK = "towns 4;road 0 to 1 days 1;road 1 to 3 days 1;road 0 to 2 days 1;road 2 to 3 days 1;"
      + "caravan at 0 to 3 load 100;caravan at 1 to 3 load 50;rate 4 at 1;rate 6 at 2;";

  private static void fork() {
    OneGate gate = Due.told(FORK + "rate 2 at 3;");
    Due.due("94 and 48", gate.arrives(), 142);
    int[] income = {0, 4, 0, 4};
    // By 1 up to rate 6, where it is as good as by 2 and first; by 2 below rate 4 alone; 3 can't be gone around.
    int[] best = {0, 6, 3, 9};
    for (int t = 0; t < 4; t++) {
      Due.due("income " + t, gate.income(t), income[t]);
      Due.due("best rate " + t, gate.bestRate(t), best[t]);
    }
    Due.due("tempted", gate.tempted(), 2 + 4 + 8);
    gate.rate(1, 6);
    Due.due("income by it", gate.income(1), 6);
    Due.due("1 no more", gate.tempted(), 4 + 8);
    gate.rate(1, 7);
    Due.due("gone around", gate.income(1), 0);
    Due.due("by 2", gate.income(2), 6);
    Due.due("by 2 up to 6", gate.bestRate(2), 6);
    gate.rate(3, 9);
    Due.due("1 alone", gate.tempted(), 2);
    Due.due("rates stay", gate.town(2, 0), 6);
    Due.due("no deeds", gate.count(9), 3);
    Due.due("town", gate.income(4), -2);
    Due.due("town", gate.income(-1), -2);
    Due.due("town", gate.bestRate(4), -2);
    Due.due("town", gate.bestRate(-1), -2);
  }

  private static void grasping() {
    OneGate gate = Due.told(FORK + "rate 2 at 3;");
    Due.due("4 more by each: the first", gate.grasping(), 1);
    gate.rate(3, 3);
    Due.due("6 more", gate.grasping(), 3);
    gate.rate(3, 0);
    gate.rate(1, 0);
    gate.rate(2, 0);
    Due.due("nothing is taken", gate.grasping(), -1);
    OneGate around = Due.told(FORK + "rate 9 at 2;rate 0 at 3;eats : 2 - road;");
    // By 1: 100-2-4-1 = 93, and 49; without 1's gate 97; without 2's the way by 2: 100.
    Due.due("arrives", around.arrives(), 93 + 49);
    Due.due("another way then", around.grasping(), 2);
    Due.due("none at all", new OneGate().grasping(), -1);
    OneGate law = Due.told("towns 2;road 0 to 1 days 1;caravan at 0 to 1 load 9;dues : 3;rate 0 at 1;");
    Due.due("whatever the law", law.grasping(), 1);
  }

  private static void whoCounts() {
    OneGate gate = Due.told("towns 3;road 0 to 1 days 2;road 1 to 2 days 1;caravan at 0 to 1 load 30;caravan at 0 to 1 load 40;"
        + "caravan at 1 to 1 load 50;caravan at 2 to 1 load 60;caravan at 0 to 2 load 70;rate 5 at 1;");
    Due.due("25 and 35 and 64", gate.arrives(), 124);
    Due.due("of three", gate.income(1), 15);
    gate.send(0, 0);
    Due.due("not on roads", gate.arrives(), 99);
    Due.due("of two", gate.income(1), 10);
    gate.days(2, false);
    Due.due("not where it goes", gate.arrives(), 99);
    OneGate spent = Due.told("towns 3;road 0 to 1 days 1;road 1 to 2 days 1;caravan at 0 to 2 load 3;dues : 5;");
    spent.send(0, 0);
    spent.days(1, false);
    Due.due("of nothing nothing", spent.arrives(), 0);
    Due.due("of nothing nothing", spent.income(2), 0);
    Due.due("no rate is better", spent.bestRate(2), 0);
    Due.due("nobody", spent.tempted(), 0);
  }

  private static void asToday() {
    OneGate gate = Due.told("towns 3;road 0 to 1 days 2;road 1 to 2 days 1;caravan at 0 to 2 load 100;"
        + "dues : rate + month * 10;eats : month;opens : month < 2;day 27;");
    Due.due("gates on days 28 and 29", gate.arrives(), 98);
    gate.days(1, false);
    Due.due("gates on days 29 and 30", gate.arrives(), 100 - 1 - 1 - 11);
    Due.due("first gate", gate.income(1), 1);
    Due.due("second gate", gate.income(2), 11);
    gate.days(29, false);
    Due.due("the second road begins on day 59", gate.arrives() > 0 ? 1 : 0, 1);
    gate.days(1, false);
    Due.due("it begins on day 60: no way", gate.arrives(), 0);
    Due.due("who has none, stays", gate.income(1), 0);
  }

  /** Six towns in a row, six caravans, ways of five roads. */
  private static void asManyAsCanBe() {
    StringBuilder text = new StringBuilder("towns 6;");
    for (int t = 0; t < 5; t++) text.append("road " + t + " to " + (t + 1) + " days 1;");
    for (int c = 0; c < 6; c++) text.append("caravan at 0 to 5 load " + (100 + c) + ";");
    OneGate gate = Due.told(text + "rate 9 at 1;rate 9 at 2;rate 8 at 3;rate 9 at 4;rate 9 at 5;");
    Due.due("arrives", gate.arrives(), 615 - 6 * 44);
    Due.due("income", gate.income(5), 54);
    Due.due("best rate", gate.bestRate(3), 9);
    Due.due("tempted", gate.tempted(), 8);
    Due.due("grasping", gate.grasping(), 1);
    Due.due("reach", gate.reach(0, 0), 63);
    Due.due("loads", gate.count(5), 615);
    for (int c = 0; c < 6; c++) gate.send(c, 0);
    Due.due("all arrive", gate.days(1, true), 6);
    Due.due("chests", gate.count(6), 54);
    Due.due("the last town's caravans", gate.town(5, 3), 0);
    Due.due("the others'", gate.town(1, 3), 63);
  }

  private static void withoutRates() {
    OneGate gate = Due.told("towns 2;road 0 to 1 days 1;caravan at 0 to 1 load 30;dues : 4;rate 7 at 1;");
    Due.due("income", gate.income(1), 4);
    Due.due("the first of equals", gate.bestRate(1), 0);
    Due.due("no more by another", gate.tempted(), 0);
    OneGate less = Due.told("towns 2;road 0 to 1 days 1;caravan at 0 to 1 load 30;dues : 9 - rate;rate 2 at 1;");
    Due.due("most by 0", less.bestRate(1), 0);
    Due.due("tempted", less.tempted(), 2);
    less.rate(1, 1);
    Due.due("by 0 alone", less.tempted(), 2);
    less.rate(1, 0);
    Due.due("no more", less.tempted(), 0);
    OneGate last = Due.told("towns 2;road 1 to 0 days 1;caravan at 1 to 0 load 30;rate 8 at 0;");
    Due.due("by 9 alone, the first town", last.tempted(), 1);
    last.rate(0, 9);
    Due.due("no more", last.tempted(), 0);
    Due.due("grasping", last.grasping(), 0);
    last.rate(0, 1);
    Due.due("1 more is more", last.grasping(), 0);
    OneGate hill = Due.told("towns 2;road 0 to 1 days 1;caravan at 0 to 1 load 30;dues : rate * (8 - rate);rate 4 at 1;");
    Due.due("most by 4", hill.bestRate(1), 4);
    Due.due("nobody", hill.tempted(), 0);
  }
}
