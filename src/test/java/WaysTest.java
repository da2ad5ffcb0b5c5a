/** Promises 20 to 27: how many ways there are, the best, the soonest, the safest, roads needed, the day to leave. */
public final class WaysTest {
  public static void main(String[] args) {
    promise20();
    waysByMonths();
    promise21();
    promise22();
    bestOfEquals();
    bestByMonths();
    bestByLoads();
    promise23();
    promise24();
    promise25();
    promise26();
    promise27();
    asItIsGone();
    Due.end();
  }

  private static final String NET = "towns 5;road 0 to 1 days 3 risk 1;road 1 to 2 days 2 risk 2;road 0 to 2 days 4 risk 4;"
      + "road 2 to 3 days 1;road 1 to 3 days 9 risk 5;road 3 to 1 days 1;road 2 to 1 days 1;road 3 to 0 days 2;"
      + "rate 5 at 1;rate 2 at 2;dues : rate * 2;eats : 1;";

  private static void promise20() {
    OneGate gate = Due.told(NET);
    Due.due("0 1 2 3, 0 1 3, 0 2 1 3, 0 2 3", gate.ways(0, 3), 4);
    Due.due("0 1, 0 2 1, 0 2 3 1", gate.ways(0, 1), 3);
    Due.due("3 1 2, 3 0 1 2, 3 0 2", gate.ways(3, 2), 3);
    Due.due("to itself", gate.ways(1, 1), 1);
    Due.due("none", gate.ways(0, 4), 0);
    Due.due("none", gate.ways(4, 0), 0);
    Due.due("to itself", gate.ways(4, 4), 1);
    Due.due("from", gate.ways(5, 0), -2);
    Due.due("from", gate.ways(-1, 0), -2);
    Due.due("to", gate.ways(0, 5), -2);
    Due.due("to", gate.ways(0, -1), -2);
    OneGate many = Due.told("towns 6;road 0 to 1 days 1;road 0 to 1 days 1;road 1 to 2 days 1;road 1 to 2 days 1;"
        + "road 2 to 3 days 1;road 2 to 3 days 1;road 3 to 4 days 1;road 3 to 4 days 1;road 4 to 5 days 1;road 4 to 5 days 1;");
    Due.due("two side by side each", many.ways(0, 5), 32);
    Due.due("no way back", many.ways(5, 0), 0);
  }

  private static void waysByMonths() {
    OneGate gate = Due.told("towns 3;road 0 to 1 days 3;road 1 to 2 days 1;opens : road = 0 or month = 1;day 26;");
    Due.due("comes on day 29", gate.ways(0, 2), 0);
    gate.days(1, false);
    Due.due("comes on day 30", gate.ways(0, 2), 1);
    OneGate first = Due.told("towns 3;road 0 to 1 days 3;road 1 to 2 days 1;opens : road = 1 or month = 0;day 29;");
    Due.due("begun on day 29", first.ways(0, 2), 1);
    first.days(1, false);
    Due.due("begun on day 30", first.ways(0, 2), 0);
  }

  private static void promise21() {
    OneGate gate = Due.told(NET);
    Due.due("all but 4", gate.reach(0, 0), 15);
    Due.due("itself", gate.reach(4, 999), 16);
    Due.due("too far", gate.reach(0, 1000), -3);
    Due.due("below", gate.reach(0, -1), -3);
    Due.due("town", gate.reach(5, -1), -2);
    Due.due("town", gate.reach(-1, 0), -2);
    OneGate months = Due.told("towns 4;road 0 to 1 days 3;road 1 to 2 days 1;road 0 to 3 days 1;"
        + "opens : road = 0 or month = 1 and road < 2 or month = 2;day 20;");
    Due.due("day 20", months.reach(0, 0), 3);
    Due.due("day 26", months.reach(0, 6), 3);
    Due.due("day 27", months.reach(0, 7), 7);
    Due.due("day 56", months.reach(0, 36), 7);
    Due.due("day 60", months.reach(0, 40), 15);
    months.days(7, false);
    Due.due("from today on", months.reach(0, 0), 7);
  }

  private static void promise22() {
    OneGate gate = Due.told(NET);
    // 0 1 2 3: 100-3-10-2-4-1-2 = 78; 0 1 3: 100-3-10-9-2 = 76; 0 2 1 3: 100-4-4-1-10-9-2 = 70; 0 2 3: 100-4-4-1-2 = 89
    Due.due("arrives", gate.best(0, 3, 100, 0), 89);
    Due.due("days", gate.best(0, 3, 100, 1), 5);
    Due.due("first road", gate.best(0, 3, 100, 10), 2);
    Due.due("second road", gate.best(0, 3, 100, 11), 3);
    Due.due("third", gate.best(0, 3, 100, 12), -1);
    Due.due("fifth", gate.best(0, 3, 100, 14), -1);
    Due.due("none", gate.best(0, 4, 100, 0), -1);
    Due.due("no road", gate.best(0, 4, 100, 10), -1);
    Due.due("itself", gate.best(2, 2, 100, 0), 100);
    Due.due("itself", gate.best(2, 2, 100, 1), 0);
    Due.due("itself", gate.best(2, 2, 100, 10), -1);
    Due.due("what", gate.best(0, 3, 100, 2), -2);
    Due.due("what", gate.best(0, 3, 100, 9), -2);
    Due.due("what", gate.best(0, 3, 100, 15), -2);
    Due.due("what", gate.best(0, 3, 100, -1), -2);
    Due.due("what ahead of load", gate.best(0, 3, 0, 15), -2);
    Due.due("load ahead of none", gate.best(0, 4, 0, 0), -3);
    Due.due("load", gate.best(0, 3, 1000, 0), -3);
    Due.due("load", gate.best(0, 3, -5, 10), -3);
    Due.due("from", gate.best(5, 3, 0, 0), -2);
    Due.due("from", gate.best(-1, 3, 100, 0), -2);
    Due.due("to", gate.best(0, 5, 100, 0), -2);
    Due.due("to", gate.best(0, -1, 100, 0), -2);
    OneGate lone = Due.told("towns 6;road 4 to 5 days 1;road 3 to 4 days 1;road 2 to 3 days 1;road 1 to 2 days 1;road 0 to 1 days 1;");
    for (int k = 0; k < 5; k++) Due.due("road " + k, lone.best(0, 5, 999, 10 + k), 4 - k);
    Due.due("five gates", lone.best(0, 5, 999, 0), 994);
  }

  private static void bestOfEquals() {
    OneGate gate = Due.told("towns 4;road 0 to 3 days 9;road 0 to 1 days 1;road 1 to 3 days 1;road 0 to 1 days 1;dues : 0;");
    Due.due("the first by roads", gate.best(0, 3, 5, 10), 0);
    Due.due("days of it", gate.best(0, 3, 5, 1), 9);
    OneGate longer = Due.told("towns 4;road 0 to 1 days 1;road 0 to 3 days 1;road 1 to 3 days 1;road 1 to 3 days 2;dues : 0;");
    Due.due("a longer one by its first road", longer.best(0, 3, 5, 10), 0);
    Due.due("then the lower", longer.best(0, 3, 5, 11), 2);
    OneGate gone = Due.told("towns 3;road 0 to 1 days 1;road 1 to 2 days 1;road 0 to 2 days 1;dues : load;");
    Due.due("nothing arrives", gone.best(0, 2, 5, 0), 0);
    Due.due("yet there is one", gone.best(0, 2, 5, 10), 0);
    Due.due("of two roads", gone.best(0, 2, 5, 11), 1);
    OneGate byLoad = Due.told("towns 3;road 0 to 1 days 1;road 1 to 2 days 1;road 0 to 2 days 1 sea;"
        + "dues : sea * 20 + load * (1 - sea) - load * (1 - sea) + (1 - sea) * (load - 90);");
    Due.due("a small load by land", byLoad.best(0, 2, 80, 10), 0);
    Due.due("a great one by sea", byLoad.best(0, 2, 200, 10), 2);
  }

  private static void bestByMonths() {
    OneGate gate = Due.told("towns 3;road 0 to 1 days 2;road 1 to 2 days 2;eats : month + 1;dues : month * 10;day 28;");
    // days 28, 29: 2 eaten, the gate on day 29 takes 0; days 30, 31: 4 eaten, the gate on day 31 takes 10
    Due.due("arrives", gate.best(0, 2, 100, 0), 100 - 2 - 4 - 10);
    Due.due("first gate", gate.takes(0, 2, 100, 1), 0);
    Due.due("second gate", gate.takes(0, 2, 100, 2), 10);
    gate.days(1, false);
    // days 29, 30: 1 + 2 eaten, the gate on day 30 takes 10; days 31, 32: 4 eaten, then 10
    Due.due("a day later", gate.best(0, 2, 100, 0), 100 - 3 - 10 - 4 - 10);
  }

  /** What camels eat may change with the LOAD from day to day. */
  private static void bestByLoads() {
    String land = "towns 2;road 0 to 1 days 2;dues : 0;eats : ";
    Due.due("50, then none", Due.told(land + "load - 50;").best(0, 1, 100, 0), 50);
    Due.due("50, then none", Due.told(land + "0 - 50 + load;").best(0, 1, 100, 0), 50);
    Due.due("50, then none", Due.told(land + "load - 20 - 30 + 0;").best(0, 1, 100, 0), 50);
    Due.due("50, then 50", Due.told(land + "50;").best(0, 1, 100, 0), 0);
    Due.due("the last", Due.told(land + "1;").best(0, 1, 1, 0), 0);
    Due.due("all but the last", Due.told(land + "1;").best(0, 1, 3, 0), 1);
    Due.due("never below 0", Due.told(land + "7;").best(0, 1, 3, 0), 0);
    Due.due("never more", Due.told(land + "0 - 7;").best(0, 1, 3, 0), 3);
  }

  private static void promise23() {
    OneGate gate = Due.told(NET);
    gate.rate(2, 9);
    Due.due("arrives", gate.best(0, 3, 100, 0), 76);
    Due.due("by 1", gate.takes(0, 3, 100, 1), 10);
    Due.due("by 3", gate.takes(0, 3, 100, 3), 2);
    Due.due("not by 2", gate.takes(0, 3, 100, 2), 0);
    Due.due("not where it begins", gate.takes(0, 3, 100, 0), 0);
    Due.due("not to itself", gate.takes(2, 2, 100, 2), 0);
    Due.due("none", gate.takes(0, 4, 100, 1), -1);
    Due.due("town", gate.takes(0, 4, 0, 5), -2);
    Due.due("town", gate.takes(0, 3, 100, -1), -2);
    Due.due("from", gate.takes(-1, 3, 100, 1), -2);
    Due.due("to", gate.takes(0, 5, 100, 1), -2);
    Due.due("load", gate.takes(0, 4, 0, 1), -3);
    Due.due("load", gate.takes(0, 3, 1000, 1), -3);
  }

  private static void promise24() {
    OneGate gate = Due.told(NET);
    Due.due("days", gate.soonest(0, 3, 0), 5);
    Due.due("road", gate.soonest(0, 3, 10), 2);
    Due.due("road", gate.soonest(0, 3, 11), 3);
    Due.due("no third", gate.soonest(0, 3, 12), -1);
    Due.due("itself", gate.soonest(3, 3, 0), 0);
    Due.due("itself", gate.soonest(3, 3, 14), -1);
    Due.due("none", gate.soonest(0, 4, 0), -1);
    Due.due("what", gate.soonest(0, 4, 1), -2);
    Due.due("what", gate.soonest(0, 3, 9), -2);
    Due.due("what", gate.soonest(0, 3, 15), -2);
    Due.due("from", gate.soonest(5, 3, 0), -2);
    Due.due("to", gate.soonest(0, -1, 0), -2);
    OneGate equal = Due.told("towns 3;road 0 to 2 days 4;road 0 to 1 days 2;road 1 to 2 days 1;road 1 to 2 days 2;road 0 to 2 days 3;");
    Due.due("the first of equals", equal.soonest(0, 2, 10), 1);
    Due.due("days", equal.soonest(0, 2, 0), 3);
    Due.due("its second road", equal.soonest(0, 2, 11), 2);
    OneGate shut = Due.told("towns 2;road 0 to 1 days 1;road 0 to 1 days 9;opens : road = 1 or month = 1;");
    Due.due("only what is open", shut.soonest(0, 1, 0), 9);
  }

  private static void promise25() {
    OneGate gate = Due.told(NET);
    // 0 1 2 3: 9/10 8/10 = 18/25; 0 1 3: 9/10 5/10; 0 2 3: 6/10; 0 2 1 3: 6/10 5/10
    Due.due("above", gate.safest(0, 3, 0), 18);
    Due.due("below", gate.safest(0, 3, 1), 25);
    Due.due("road", gate.safest(0, 3, 10), 0);
    Due.due("road", gate.safest(0, 3, 11), 1);
    Due.due("road", gate.safest(0, 3, 12), 3);
    Due.due("no fourth", gate.safest(0, 3, 13), -1);
    Due.due("sure", gate.safest(2, 3, 0), 1);
    Due.due("sure", gate.safest(2, 3, 1), 1);
    Due.due("itself", gate.safest(1, 1, 1), 1);
    Due.due("none", gate.safest(0, 4, 0), -1);
    Due.due("none", gate.safest(0, 4, 1), -1);
    Due.due("what", gate.safest(0, 4, 2), -2);
    Due.due("what", gate.safest(0, 3, 15), -2);
    Due.due("what", gate.safest(0, 3, -1), -2);
    Due.due("from", gate.safest(-1, 3, 0), -2);
    Due.due("to", gate.safest(0, 5, 0), -2);
    OneGate never = Due.told("towns 2;road 0 to 1 days 1 risk 10;road 0 to 1 days 1 risk 10;");
    Due.due("never", never.safest(0, 1, 0), 0);
    Due.due("in 1", never.safest(0, 1, 1), 1);
    Due.due("the first", never.safest(0, 1, 10), 0);
    OneGate far = Due.told("towns 6;road 0 to 1 days 1 risk 1;road 1 to 2 days 1 risk 1;road 2 to 3 days 1 risk 1;"
        + "road 3 to 4 days 1 risk 3;road 4 to 5 days 1 risk 9;");
    Due.due("9 9 9 7 1", far.safest(0, 5, 0), 5103);
    Due.due("in 100000", far.safest(0, 5, 1), 100000);
    OneGate close = Due.told("towns 3;road 0 to 2 days 1 risk 4;road 0 to 1 days 1 risk 2;road 1 to 2 days 1 risk 2;road 0 to 2 days 1 risk 4;");
    Due.due("16 of 25", close.safest(0, 2, 0), 16);
    OneGate equal = Due.told("towns 3;road 0 to 1 days 1 risk 5;road 1 to 2 days 1 risk 2;road 0 to 2 days 1 risk 6;");
    Due.due("4 of 10 both: the first", equal.safest(0, 2, 10), 0);
  }

  private static void promise26() {
    OneGate gate = Due.told(NET);
    Due.due("none is needed", gate.needed(0, 3), 0);
    Due.due("from 3 to 0 the one road", gate.needed(3, 0), 1 << 7);
    Due.due("from 1 to 0 too", gate.needed(1, 0), 1 << 7);
    Due.due("from 2 to 0", gate.needed(2, 0), 1 << 7);
    Due.due("itself", gate.needed(3, 3), 0);
    Due.due("no way anyhow", gate.needed(0, 4), 0);
    Due.due("from", gate.needed(5, 0), -2);
    Due.due("to", gate.needed(0, -1), -2);
    OneGate row = Due.told("towns 4;road 0 to 1 days 1;road 1 to 2 days 1;road 1 to 2 days 1;road 2 to 3 days 1;");
    Due.due("first and last", row.needed(0, 3), 1 + 8);
    OneGate shut = Due.told("towns 2;road 0 to 1 days 1;road 0 to 1 days 1;opens : road = 1 or month = 1;");
    Due.due("the other is shut today", shut.needed(0, 1), 2);
  }

  private static void promise27() {
    OneGate gate = Due.told("towns 2;road 0 to 1 days 4;dues : 12 - month * 3;eats : 0;day 20;");
    Due.due("comes in month 4 (day 120)", gate.leave(0, 1, 50), 97);
    Due.due("of a small load most in month 4", gate.leave(0, 1, 5), 97);
    gate.days(1, false);
    Due.due("a day less", gate.leave(0, 1, 50), 96);
    OneGate flat = Due.told("towns 2;road 0 to 1 days 4;opens : month = 1;day 20;");
    Due.due("the first open day", flat.leave(0, 1, 50), 10);
    OneGate late = Due.told("towns 2;road 0 to 1 days 4;opens : month = 4;day 20;");
    Due.due("too late", late.leave(0, 1, 50), -1);
    late.days(1, false);
    Due.due("the last day", late.leave(0, 1, 50), 99);
    OneGate nothing = Due.told("towns 3;road 0 to 1 days 4;opens : month = 1;dues : load;");
    Due.due("nothing arrives, yet by a way", nothing.leave(0, 1, 50), 30);
    Due.due("itself", nothing.leave(2, 2, 50), 0);
    Due.due("no way", nothing.leave(1, 0, 50), -1);
    Due.due("from", nothing.leave(3, 0, 0), -2);
    Due.due("to", nothing.leave(0, -1, 50), -2);
    Due.due("load", nothing.leave(1, 0, 0), -3);
    Due.due("load", nothing.leave(0, 1, 1000), -3);
  }

  /** What best() tells is what comes of it when it is gone, day by day. */
  private static void asItIsGone() {
    for (int day = 0; day < 400; day += 7) {
      OneGate gate = Due.told("towns 5;road 0 to 1 days 13;road 1 to 2 days 8 sea;road 0 to 2 days 31 sea;"
          + "road 2 to 3 days 5;road 1 to 3 days 29;road 3 to 4 days 17;caravan at 0 to 4 load 900;dues : (month + 2) * (town + sea);"
          + "eats : (month + road) * load * 0 + month - 3 + load - load;opens : not month = 6;day " + day + ";");
      int arrives = gate.best(0, 4, 900, 0);
      int days = gate.best(0, 4, 900, 1);
      if (arrives < 0) continue;
      int[] way = new int[5];
      for (int k = 0; k < 5; k++) way[k] = gate.best(0, 4, 900, 10 + k);
      for (int k = 0; k < 5 && way[k] >= 0; k++) Due.due("arrived", gate.days(Math.max(1, gate.send(0, way[k])), true), 1);
      Due.due("load from day " + day, gate.count(5), arrives);
      Due.due("days from day " + day, gate.count(7), day + days);
      Due.due("there", gate.count(3), 1);
    }
  }
}
