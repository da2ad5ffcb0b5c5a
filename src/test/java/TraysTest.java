/** Promises 36 to 41: trays, what is listed in them, images, counts. */
public final class TraysTest {
  public static void main(String[] args) {
    promise36();
    promise37();
    promise38();
    promise39();
    promise40();
    imagesStandAlone();
    promise41();
    Due.end();
  }

  private static void promise36() {
    OneGate gate = new OneGate();
    Due.due("laid out", gate.numbers(3, 3, 40), 0);
    Due.due("0", gate.write(3, 39, 5), 5);
    Due.due("n", gate.numbers(3, 1, 41), -3);
    Due.due("n", gate.numbers(3, 1, -1), -3);
    Due.due("the tray stays", gate.write(3, 39, 70000), 70000);
    Due.due("tray", gate.numbers(4, 0, 41), -2);
    Due.due("tray", gate.numbers(-1, 0, 1), -2);
    Due.due("sort", gate.numbers(0, 4, 41), -2);
    Due.due("sort", gate.numbers(0, -1, 1), -2);
    Due.due("missing", gate.write(0, 0, 0), -6);
    Due.due("empty", gate.numbers(0, 0, 0), 0);
    Due.due("no such number", gate.write(0, 0, 0), -7);
    Due.due("deeds of 3", gate.numbers(1, 1, 3), 0);
    gate.write(1, 0, 200);
    gate.write(1, 1, 300);
    Due.due("300 can't be", gate.judge(1, 0), 1);
    Due.due("anew", gate.numbers(1, 1, 3), 0);
    Due.due("all 0: a caravan 0 is sent on road 0", gate.judge(1, 0), 0);
  }

  private static void promise37() {
    OneGate gate = new OneGate();
    long[] numbers = {0, 1, -1, 127, 128, 255, 256, -128, -129, 32767, 32768, 65535, -32769, 1L << 31, (1L << 31) - 1,
        1L << 32, Long.MAX_VALUE, Long.MIN_VALUE, 0x1122334455667788L};
    for (int sort = 0; sort < 4; sort++) {
      gate.numbers(0, sort, 2);
      for (long v : numbers) {
        long cut = sort == 0 ? (byte) v : sort == 1 ? (short) v : sort == 2 ? (int) v : v;
        Due.due("sort " + sort + " " + v, gate.write(0, 1, v), cut);
      }
    }
    Due.due("place", gate.write(0, 2, 1), -7);
    Due.due("place", gate.write(0, -1, 1), -7);
    Due.due("missing", gate.write(1, 99, 1), -6);
    Due.due("tray", gate.write(4, 0, 1), -2);
    Due.due("tray", gate.write(-1, 0, 1), -2);
  }

  private static final String ROW = "towns 5;road 0 to 1 days 1;road 1 to 2 days 1;road 2 to 3 days 1;rate 2 at 1;eats : 1;";

  private static void promise38() {
    OneGate gate = Due.told(ROW);
    // Of 100: 97 95 93; of 300: 297 295 293.
    Due.write(gate, 0, 1, -1, -1, -1, 200);
    Due.due("three", gate.lists(0, 0, 3, 100), 3);
    Due.due("the fourth stays", gate.judge(0, 0), 0);
    Due.write(gate, 0, 1, 0, 0, 0);
    gate.lists(0, 0, 3, 100);
    gate.write(0, 2, 84);
    Due.due("97 95 and short by 3", gate.lacks(0, 0, 3, 100), 8);
    Due.write(gate, 1, 2, 0, 0);
    Due.due("as far as it has places", gate.lists(1, 0, 3, 100), 2);
    Due.write(gate, 1, 2);
    Due.due("none", gate.lists(1, 0, 3, 100), 0);
    Due.write(gate, 1, 2, 5);
    Due.due("no roads", gate.lists(1, 4, 4, 100), 0);
    // 8 bits: 297 is 41, 295 is 39, 293 is 37: sending caravan 4 on road 1 can't be, there is none.
    Due.write(gate, 3, 0, 0, 0, 0);
    Due.due("three", gate.lists(3, 0, 3, 300), 3);
    Due.due("cut to the sort", gate.lacks(3, 0, 3, 300), 0);
    Due.due("cut to the sort", gate.judge(3, 1), 1);
    OneGate deeds = Due.told("towns 2;road 0 to 1 days 1;caravan at 0 to 1 load 9;");
    Due.write(deeds, 0, 0, 0, 0);
    deeds.lists(0, 0, 1, 457);
    Due.due("456 in 8 bits is -56", deeds.judge(0, 1), 1);
    deeds.lists(0, 0, 1, 201);
    Due.due("200 in 8 bits is -56", deeds.judge(0, 1), 1);
    Due.write(deeds, 0, 1, 0, 0);
    deeds.lists(0, 0, 1, 201);
    Due.due("a day, then caravan 0 is sent on road 0", deeds.perform(0), 2);
    Due.due("tray", gate.lists(4, 0, 3, 0), -2);
    Due.due("tray", gate.lists(-1, 0, 3, 100), -2);
    Due.due("from", gate.lists(2, 5, 3, 0), -2);
    Due.due("to", gate.lists(2, 0, -1, 100), -2);
    Due.due("missing", gate.lists(2, 0, 3, 0), -6);
    Due.due("load", gate.lists(0, 3, 0, 0), -3);
    Due.due("load", gate.lists(0, 0, 3, 1000), -3);
    Due.due("no way", gate.lists(0, 3, 0, 100), -5);
  }

  private static void promise39() {
    OneGate gate = Due.told(ROW);
    gate.start(0, 3, 10);
    Due.due("made", gate.image(0), 0);
    Due.due("made", gate.image(1), 0);
    Due.due("no such", gate.image(2), -2);
    Due.due("no such", gate.image(-1), -2);
    Due.due("what could be undone can be", gate.count(9), 1);
    Due.due("undone", gate.undo(1), 0);
    Due.due("restored", gate.restore(1), 0);
    Due.due("caravan", gate.count(2), 1);
  }

  private static void promise40() {
    OneGate gate = Due.told("towns 3;road 0 to 1 days 2;road 1 to 2 days 1 sea;caravan at 0 to 2 load 60;rate 3 at 1;"
        + "dues : rate * 2;eats : 1;opens : month = 0;day 4;");
    Due.due("none was made", gate.restore(0), -5);
    Due.due("no such", gate.restore(2), -2);
    Due.due("no such", gate.restore(-1), -2);
    gate.seed(99);
    gate.send(0, 0);
    gate.days(2, false);
    gate.send(0, 1);
    gate.rate(2, 8);
    gate.image(0);
    Due.tell(gate, "towns 2;");
    gate.rate(0, 5);
    gate.numbers(0, 0, 3);
    gate.feed(1, 2, 3, 4, 5);
    Due.due("the other was not made", gate.restore(1), -5);
    Due.due("nothing changed", gate.count(9), 1);
    Due.due("restored", gate.restore(0), 0);
    int[] counts = {3, 2, 1, 0, 1, 60 - 2 - 6, 6, 6, 0, 0, 20, 9};
    for (int what = 0; what < counts.length; what++) Due.due("count " + what, gate.count(what), counts[what]);
    Due.due("nothing can be undone", gate.undo(1), -3);
    Due.due("x", gate.seed(1), 99);
    Due.due("rate", gate.town(2, 0), 8);
    Due.due("chest", gate.town(1, 1), 6);
    Due.due("road", gate.road(1, 4), 1);
    Due.due("dues", gate.dues(1, 99, false), 6);
    Due.due("eats", gate.eats(0, 99), 1);
    Due.due("opens", gate.open(0, 30), 0);
    Due.due("left", gate.caravan(0, 2), 1);
    Due.due("only the seed can be undone", gate.undo(1), 0);
    Due.due("trays are no part of it", gate.write(0, 2, 7), 7);
    Due.due("goes on", gate.days(1, false), 1);
    Due.due("the image doesn't", gate.restore(0), 0);
    Due.due("left", gate.caravan(0, 2), 1);
  }

  private static void imagesStandAlone() {
    OneGate gate = Due.told("towns 2;");
    gate.image(0);
    gate.rate(0, 4);
    gate.image(1);
    Due.tell(gate, "towns 6;");
    Due.tell(gate, "towns 9;");
    gate.restore(0);
    Due.due("rate", gate.town(0, 0), 1);
    gate.restore(1);
    Due.due("rate", gate.town(0, 0), 4);
    gate.image(0);
    gate.rate(0, 7);
    gate.restore(0);
    Due.due("made anew", gate.town(0, 0), 4);
    OneGate fresh = new OneGate();
    fresh.image(1);
    Due.tell(fresh, "towns 3;road 0 to 1 days 1;");
    fresh.restore(1);
    Due.due("without a text", fresh.count(0), 2);
    Due.due("without roads", fresh.count(1), 0);
    Due.due("without lines", fresh.count(11), 0);
  }

  private static void promise41() {
    OneGate gate = Due.told("towns 4;road 0 to 1 days 2;road 1 to 2 days 4;caravan at 0 to 1 load 10;caravan at 3 to 3 load 20;"
        + "caravan at 0 to 2 load 30;rate 2 at 1;day 359;");
    gate.send(0, 0);
    gate.send(2, 0);
    int[] onRoads = {4, 2, 3, 2, 5, 60, 0, 359, 11, 2, 0, 8};
    for (int what = 0; what < onRoads.length; what++) Due.due("count " + what, gate.count(what), onRoads[what]);
    gate.days(2, false);
    gate.send(2, 1);
    gate.feed(0, 0, 0, 0, 0);
    int[] later = {4, 2, 3, 3, 4, 56, 4, 361, 0, 4, 20, 8};
    for (int what = 0; what < later.length; what++) Due.due("count " + what, gate.count(what), later[what]);
    Due.due("others", gate.count(12), -1);
    Due.due("others", gate.count(-1), -1);
    gate.start(0, 1, 5);
    Due.due("loads", gate.count(5), 61);
    Due.due("no line", gate.count(11), 8);
    OneGate home = Due.told("towns 2;road 1 to 0 days 1;caravan at 1 to 0 load 9;rate 4 at 0;");
    home.send(0, 0);
    home.days(1, false);
    Due.due("chest of town 0", home.count(6), 4);
  }
}
