import java.util.ArrayDeque;
import java.util.ArrayList;
import java.util.Arrays;
import java.util.Collections;
import java.util.HashMap;
import java.util.List;
import java.util.Map;
import java.util.regex.Matcher;
import java.util.regex.Pattern;

/**
 * The document once more, as plainly as can be and with other means than OneGate: laws as trees, ways as lists that
 * are gone day by day, all of them tried and sorted. ModelTest compares the two.
 */
final class PlainModel {
  interface Sum {
    long of(Map<String, Integer> words);
  }

  static final class Fault extends Exception {
    private static final long serialVersionUID = 1L;
    final int kind;
    final int place;

    Fault(int kind, int place) {
      this.kind = kind;
      this.place = place;
    }
  }

  static final class Road {
    int from, to, days, risk, sea;
  }

  static final class Caravan implements Cloneable {
    int town, road = -1, left, goal, load;

    Caravan copy() {
      Caravan c = new Caravan();
      c.town = town;
      c.road = road;
      c.left = left;
      c.goal = goal;
      c.load = load;
      return c;
    }
  }

  static final class Map1 {
    int towns = 2, lines = 0;
    List<Road> roads = new ArrayList<>();
    Sum dues = w -> w.get("rate");
    Sum eats = w -> 0;
    Sum opens = w -> 1;
  }

  static final class World {
    List<Caravan> caravans = new ArrayList<>();
    int[] rates = {1, 1, 1, 1, 1, 1};
    int[] chests = new int[6];
    int day = 0, x = 0;

    World copy() {
      World w = new World();
      for (Caravan c : caravans) w.caravans.add(c.copy());
      w.rates = rates.clone();
      w.chests = chests.clone();
      w.day = day;
      w.x = x;
      return w;
    }
  }

  // ---- the text

  static final class Text {
    final String text;
    final List<String> tokens = new ArrayList<>();
    final List<Integer> places = new ArrayList<>();
    int next = 0;
    String law = "";
    final Map1 map = new Map1();
    final World world = new World();

    Text(String text) {
      this.text = text;
      Matcher m = Pattern.compile("[a-z]+|[0-9]+|[^ \\n]", Pattern.DOTALL).matcher(text);
      while (m.find()) {
        tokens.add(m.group());
        places.add(m.start());
      }
      tokens.add("");
      places.add(text.length());
    }

    String see() {
      return tokens.get(next);
    }

    Fault fault(int kind) {
      String t = see();
      boolean none = !t.isEmpty() && !t.matches("[a-z]+|[0-9]{1,3}|[-;:+*()\\[\\]=<>]");
      return new Fault(none ? 1 : kind, places.get(next));
    }

    void must(String token) throws Fault {
      if (!see().equals(token)) throw fault(2);
      next++;
    }

    boolean may(String token) {
      if (!see().equals(token)) return false;
      next++;
      return true;
    }

    int number(int low, int high, int not) throws Fault {
      if (!see().matches("[0-9]{1,3}")) throw fault(2);
      int n = Integer.parseInt(see());
      if (n < low || n > high || n == not) throw fault(3);
      next++;
      return n;
    }

    void read() throws Fault {
      must("towns");
      map.towns = number(2, 6, -1);
      must(";");
      map.lines = 1;
      while (!see().isEmpty()) {
        line();
        must(";");
        map.lines++;
      }
    }

    void line() throws Fault {
      int last = map.towns - 1;
      switch (see()) {
        case "road":
          if (map.roads.size() == 10) throw fault(4);
          next++;
          Road r = new Road();
          r.from = number(0, last, -1);
          must("to");
          r.to = number(0, last, r.from);
          must("days");
          r.days = number(1, 40, -1);
          while (true) {
            if (may("risk")) r.risk = number(0, 10, -1);
            else if (may("sea")) r.sea = 1;
            else break;
          }
          map.roads.add(r);
          break;
        case "caravan":
          if (world.caravans.size() == 6) throw fault(4);
          next++;
          Caravan c = new Caravan();
          must("at");
          c.town = number(0, last, -1);
          must("to");
          c.goal = number(0, last, -1);
          must("load");
          c.load = number(1, 999, -1);
          world.caravans.add(c);
          break;
        case "rate":
          next++;
          int n = number(0, 9, -1);
          must("at");
          world.rates[number(0, last, -1)] = n;
          break;
        case "day":
          next++;
          world.day = number(0, 999, -1);
          break;
        case "dues":
          law();
          map.dues = sum(0);
          break;
        case "eats":
          law();
          map.eats = sum(0);
          break;
        case "opens":
          law();
          map.opens = truth(0);
          break;
        default:
          throw fault(2);
      }
    }

    void law() throws Fault {
      law = see();
      next++;
      must(":");
    }

    Sum truth(int deep) throws Fault {
      Sum a = both(deep);
      while (may("or")) {
        Sum l = a, r = both(deep);
        a = w -> l.of(w) != 0 || r.of(w) != 0 ? 1 : 0;
      }
      return a;
    }

    Sum both(int deep) throws Fault {
      Sum a = unit(deep);
      while (may("and")) {
        Sum l = a, r = unit(deep);
        a = w -> l.of(w) != 0 && r.of(w) != 0 ? 1 : 0;
      }
      return a;
    }

    Sum unit(int deep) throws Fault {
      if ((see().equals("not") || see().equals("[")) && deep == 6) throw fault(4);
      if (may("not")) {
        Sum u = unit(deep + 1);
        return w -> u.of(w) == 0 ? 1 : 0;
      }
      if (may("[")) {
        Sum t = truth(deep + 1);
        must("]");
        return t;
      }
      Sum a = sum(deep);
      String sign = see();
      if (!sign.matches("[=<>]")) throw fault(2);
      next++;
      Sum b = sum(deep);
      return w -> {
        int c = Long.compare(a.of(w), b.of(w));
        return (sign.equals("=") ? c == 0 : sign.equals("<") ? c < 0 : c > 0) ? 1 : 0;
      };
    }

    static long keep(long n) {
      return n > 1000000 ? 1000000 : n < -1000000 ? -1000000 : n;
    }

    Sum sum(int deep) throws Fault {
      Sum a = term(deep);
      while (see().equals("+") || see().equals("-")) {
        boolean plus = see().equals("+");
        next++;
        Sum l = a, r = term(deep);
        a = plus ? w -> keep(l.of(w) + r.of(w)) : w -> keep(l.of(w) - r.of(w));
      }
      return a;
    }

    Sum term(int deep) throws Fault {
      Sum a = atom(deep);
      while (may("*")) {
        Sum l = a, r = atom(deep);
        a = w -> keep(l.of(w) * r.of(w));
      }
      return a;
    }

    Sum atom(int deep) throws Fault {
      if (see().equals("(")) {
        if (deep == 6) throw fault(4);
        next++;
        Sum s = sum(deep + 1);
        must(")");
        return s;
      }
      if (see().matches("[0-9]{1,3}")) {
        int n = Integer.parseInt(see());
        next++;
        return w -> n;
      }
      List<String> words = new ArrayList<>(Arrays.asList("month", "sea"));
      if (law.equals("dues")) Collections.addAll(words, "town", "rate", "load");
      if (law.equals("eats")) Collections.addAll(words, "road", "load");
      if (law.equals("opens")) Collections.addAll(words, "road");
      if (!words.contains(see())) throw fault(2);
      String word = see();
      next++;
      return w -> w.get(word);
    }
  }

  // ---- the object

  String tape = "";
  Map1 map = new Map1();
  World world = new World();
  int fault = 0, place = -1;
  final ArrayDeque<World> past = new ArrayDeque<>();
  final Map1[] imageMaps = new Map1[2];
  final World[] imageWorlds = new World[2];
  final long[][] trays = new long[4][];
  final int[] sorts = new int[4];

  boolean isTown(int t) {
    return 0 <= t && t < map.towns;
  }

  boolean isRoad(int r) {
    return 0 <= r && r < map.roads.size();
  }

  static int month(int day) {
    return day / 30 % 12;
  }

  static Map<String, Integer> words(Object... pairs) {
    Map<String, Integer> m = new HashMap<>();
    for (int i = 0; i < pairs.length; i += 2) m.put((String) pairs[i], (Integer) pairs[i + 1]);
    return m;
  }

  static int within(long told, int load) {
    return told < 0 ? 0 : told > load ? load : (int) told;
  }

  int gate(int t, int rate, int load, int day, int sea) {
    return within(map.dues.of(words("town", t, "rate", rate, "load", load, "month", month(day), "sea", sea)), load);
  }

  int eaten(int r, int load, int day) {
    return within(map.eats.of(words("road", r, "load", load, "month", month(day), "sea", map.roads.get(r).sea)), load);
  }

  boolean isOpen(int r, int day) {
    return map.opens.of(words("road", r, "month", month(day), "sea", map.roads.get(r).sea)) != 0;
  }

  int feed(int a, int b, int c, int d, int e) {
    if (tape.length() + 20 > 900) return -5;
    StringBuilder s = new StringBuilder(tape);
    for (int word : new int[] {a, b, c, d, e}) {
      for (int k = 3; k >= 0; k--) s.append((char) (word >>> 8 * k & 255));
    }
    tape = s.toString();
    return tape.length();
  }

  int roads(int n) {
    if (n < 0 || n > tape.length()) return -3;
    Text text = new Text(tape.substring(0, n));
    tape = "";
    fault = 0;
    place = -1;
    try {
      text.read();
    } catch (Fault f) {
      fault = f.kind;
      place = f.place;
      return -30 - f.kind;
    }
    map = text.map;
    world = text.world;
    past.clear();
    return map.lines;
  }

  int fault(int what) {
    return what == 0 ? fault : what == 1 ? place : -1;
  }

  int town(int t, int what) {
    if (!isTown(t) || what < 0 || what > 3) return -2;
    if (what == 0) return world.rates[t];
    if (what == 1) return world.chests[t];
    int bits = 0;
    if (what == 2) {
      for (int r = 0; r < map.roads.size(); r++) bits += map.roads.get(r).from == t ? 1 << r : 0;
    } else {
      for (int c = 0; c < world.caravans.size(); c++) bits += inTown(c) && world.caravans.get(c).town == t ? 1 << c : 0;
    }
    return bits;
  }

  boolean inTown(int c) {
    return world.caravans.get(c).road < 0;
  }

  int road(int r, int what) {
    if (!isRoad(r) || what < 0 || what > 4) return -2;
    Road road = map.roads.get(r);
    return new int[] {road.from, road.to, road.days, road.risk, road.sea}[what];
  }

  int caravan(int c, int what) {
    if (c < 0 || c >= world.caravans.size() || what < 0 || what > 4) return -2;
    Caravan v = world.caravans.get(c);
    return new int[] {v.road < 0 ? v.town : -1, v.road, v.road < 0 ? 0 : v.left, v.goal, v.load}[what];
  }

  int dues(int t, int load, boolean sea) {
    if (!isTown(t)) return -2;
    if (load < 0 || load > 999) return -3;
    return gate(t, world.rates[t], load, world.day, sea ? 1 : 0);
  }

  int eats(int r, int load) {
    if (!isRoad(r)) return -2;
    if (load < 0 || load > 999) return -3;
    return eaten(r, load, world.day);
  }

  int open(int r, int n) {
    if (!isRoad(r)) return -2;
    if (n < 0 || n > 999) return -3;
    return isOpen(r, world.day + n) ? 1 : 0;
  }

  // ---- deeds

  void did(World before) {
    past.addLast(before);
    if (past.size() > 10) past.removeFirst();
  }

  int seed(int n) {
    did(world.copy());
    int was = world.x;
    world.x = n;
    return was;
  }

  int start(int at, int to, int load) {
    if (!isTown(at) || !isTown(to)) return -2;
    if (load < 1 || load > 999) return -3;
    if (world.caravans.size() == 6) return -4;
    did(world.copy());
    Caravan c = new Caravan();
    c.town = at;
    c.goal = to;
    c.load = load;
    world.caravans.add(c);
    return world.caravans.size() - 1;
  }

  int whySend(World w, int c, int r) {
    if (c < 0 || c >= w.caravans.size() || !isRoad(r)) return 1;
    Caravan v = w.caravans.get(c);
    if (v.road >= 0 || v.town != map.roads.get(r).from) return 2;
    return isOpen(r, w.day) ? 0 : 3;
  }

  void doSend(World w, int c, int r) {
    Caravan v = w.caravans.get(c);
    v.road = r;
    v.left = map.roads.get(r).days;
  }

  int send(int c, int r) {
    int why = whySend(world, c, r);
    if (why > 0) return -10 - why;
    did(world.copy());
    doSend(world, c, r);
    return map.roads.get(r).days;
  }

  int rate(int t, int n) {
    if (!isTown(t)) return -2;
    if (n < 0 || n > 9) return -3;
    did(world.copy());
    int was = world.rates[t];
    world.rates[t] = n;
    return was;
  }

  static int draw(World w) {
    w.x = (int) (1103515245L * w.x + 12345L);
    return (int) ((w.x & 0xffffffffL) >> 16);
  }

  int day(World w, boolean robbers) {
    int arrived = 0;
    for (Caravan v : w.caravans) {
      if (v.road < 0) continue;
      Road r = map.roads.get(v.road);
      v.load -= eaten(v.road, v.load, w.day);
      v.left--;
      if (v.left > 0) continue;
      if (robbers && r.risk > 0) {
        if (draw(w) % 10 < r.risk) v.load -= v.load / 10;
      }
      int take = gate(r.to, w.rates[r.to], v.load, w.day, r.sea);
      v.load -= take;
      w.chests[r.to] += take;
      v.road = -1;
      v.town = r.to;
      arrived++;
    }
    w.day++;
    return arrived;
  }

  int days(int n, boolean robbers) {
    if (n < 1 || n > 99) return -3;
    did(world.copy());
    int arrived = 0;
    for (int i = 0; i < n; i++) arrived += day(world, robbers);
    return arrived;
  }

  int undo(int n) {
    if (n < 1 || n > 10 || n > past.size()) return -3;
    for (int i = 0; i < n; i++) world = past.removeLast();
    return past.size();
  }

  int why(World w, long v) {
    if (v == -1 || v == 200) return 0;
    if (v >= 0 && v <= 99) return whySend(w, (int) v / 10, (int) v % 10);
    if (v >= 100 && v <= 199) return isTown((int) (v - 100) / 10) ? 0 : 1;
    return 1;
  }

  boolean deed(World w, long v) {
    if (why(w, v) > 0) return false;
    if (v == -1) day(w, false);
    else if (v == 200) day(w, true);
    else if (v < 100) doSend(w, (int) v / 10, (int) v % 10);
    else w.rates[(int) (v - 100) / 10] = (int) v % 10;
    return true;
  }

  int judge(int tray, int what) {
    if (tray < 0 || tray > 3 || what < 0 || what > 3) return -2;
    if (trays[tray] == null) return -6;
    World w = world.copy();
    int i = 0;
    while (i < trays[tray].length && deed(w, trays[tray][i])) i++;
    boolean all = i == trays[tray].length;
    if (what == 0) return all ? -1 : i;
    if (what == 1) return all ? 0 : why(w, trays[tray][i]);
    return what == 2 ? w.caravans.stream().mapToInt(c -> c.load).sum() : Arrays.stream(w.chests).sum();
  }

  int perform(int tray) {
    if (tray < 0 || tray > 3) return -2;
    if (trays[tray] == null) return -6;
    World before = world.copy();
    int i = 0;
    while (i < trays[tray].length && deed(world, trays[tray][i])) i++;
    if (i > 0) did(before);
    return i;
  }

  int year(int seed, int times) {
    if (times < 1 || times > 40) return -3;
    World w = world.copy();
    w.x = seed;
    int done = 0;
    for (int i = 0; i < times; i++) {
      int kind = draw(w) % 4;
      long v = 200;
      if (kind >= 2) {
        int a = draw(w) % 10;
        int b = draw(w) % 10;
        v = (kind == 2 ? 0 : 100) + 10 * a + b;
      }
      if (deed(w, v)) done++;
    }
    if (done == 0) return 0;
    did(world);
    world = w;
    return done;
  }

  // ---- ways

  List<List<Integer>> allWays(int from, int to, int day) {
    List<List<Integer>> all = new ArrayList<>();
    grow(new ArrayList<>(), new ArrayList<>(List.of(from)), to, day, all);
    all.sort((a, b) -> {
      for (int i = 0; i < a.size() && i < b.size(); i++) {
        if (!a.get(i).equals(b.get(i))) return a.get(i) - b.get(i);
      }
      return a.size() - b.size();
    });
    return all;
  }

  void grow(List<Integer> roads, List<Integer> towns, int to, int day, List<List<Integer>> all) {
    int at = towns.get(towns.size() - 1);
    if (at == to) {
      all.add(new ArrayList<>(roads));
      return;
    }
    for (int r = map.roads.size() - 1; r >= 0; r--) {
      Road road = map.roads.get(r);
      if (road.from != at || towns.contains(road.to) || !isOpen(r, day)) continue;
      roads.add(r);
      towns.add(road.to);
      grow(roads, towns, to, day + road.days, all);
      roads.remove(roads.size() - 1);
      towns.remove(towns.size() - 1);
    }
  }

  /** Goes a way by DAYS as they are: rows of what is behind each gate, and of what it took. */
  int[][] go(List<Integer> way, int day, int load, int[] rates, int free, int keeper) {
    World w = new World();
    w.day = day;
    w.rates = rates.clone();
    Caravan v = new Caravan();
    v.load = load;
    v.town = way.isEmpty() ? 0 : map.roads.get(way.get(0)).from;
    w.caravans.add(v);
    int[] behind = new int[way.size()];
    int[] took = new int[way.size()];
    for (int k = 0; k < way.size(); k++) {
      Road r = map.roads.get(way.get(k));
      if (whySend(w, 0, way.get(k)) != 0) throw new IllegalStateException("a way that can't be");
      doSend(w, 0, way.get(k));
      for (int d = 0; d < r.days; d++) day(w, false);
      took[k] = w.chests[r.to];
      if (r.to == free) {
        v.load += took[k];
        took[k] = 0;
      }
      if (k == keeper) v.load -= v.load / 10;
      behind[k] = v.load;
    }
    return new int[][] {behind, took, {v.load, w.day - day}};
  }

  List<Integer> bestWay(int from, int to, int day, int load, int[] rates, int free) {
    List<Integer> best = null;
    int most = -1;
    for (List<Integer> way : allWays(from, to, day)) {
      int left = go(way, day, load, rates, free, -1)[2][0];
      if (left > most) {
        most = left;
        best = way;
      }
    }
    return best;
  }

  int daysOf(List<Integer> way) {
    return way.stream().mapToInt(r -> map.roads.get(r).days).sum();
  }

  int ways(int from, int to) {
    if (!isTown(from) || !isTown(to)) return -2;
    return allWays(from, to, world.day).size();
  }

  int reach(int from, int n) {
    if (!isTown(from)) return -2;
    if (n < 0 || n > 999) return -3;
    int bits = 0;
    for (int t = 0; t < map.towns; t++) bits += allWays(from, t, world.day + n).isEmpty() ? 0 : 1 << t;
    return bits;
  }

  static int roadOf(List<Integer> way, int k) {
    return k < way.size() ? way.get(k) : -1;
  }

  int best(int from, int to, int load, int what) {
    if (!isTown(from) || !isTown(to)) return -2;
    if (!(what == 0 || what == 1 || what >= 10 && what <= 14)) return -2;
    if (load < 1 || load > 999) return -3;
    List<Integer> way = bestWay(from, to, world.day, load, world.rates, -1);
    if (way == null) return -1;
    if (what < 10) return go(way, world.day, load, world.rates, -1, -1)[2][what];
    return roadOf(way, what - 10);
  }

  int takes(int from, int to, int load, int t) {
    if (!isTown(from) || !isTown(to) || !isTown(t)) return -2;
    if (load < 1 || load > 999) return -3;
    List<Integer> way = bestWay(from, to, world.day, load, world.rates, -1);
    if (way == null) return -1;
    return tookAt(way, load, t, world.rates);
  }

  int tookAt(List<Integer> way, int load, int t, int[] rates) {
    int sum = 0;
    int[] took = go(way, world.day, load, rates, -1, -1)[1];
    for (int k = 0; k < way.size(); k++) sum += map.roads.get(way.get(k)).to == t ? took[k] : 0;
    return sum;
  }

  int soonest(int from, int to, int what) {
    if (!isTown(from) || !isTown(to)) return -2;
    if (!(what == 0 || what >= 10 && what <= 14)) return -2;
    List<Integer> soon = null;
    for (List<Integer> way : allWays(from, to, world.day)) {
      if (soon == null || daysOf(way) < daysOf(soon)) soon = way;
    }
    if (soon == null) return -1;
    return what == 0 ? daysOf(soon) : roadOf(soon, what - 10);
  }

  long[] odds(List<Integer> way) {
    long above = 1, below = 1;
    for (int r : way) {
      above *= 10 - map.roads.get(r).risk;
      below *= 10;
    }
    return new long[] {above, below};
  }

  int safest(int from, int to, int what) {
    if (!isTown(from) || !isTown(to)) return -2;
    if (!(what == 0 || what == 1 || what >= 10 && what <= 14)) return -2;
    List<Integer> safe = null;
    for (List<Integer> way : allWays(from, to, world.day)) {
      if (safe == null || odds(way)[0] * odds(safe)[1] > odds(safe)[0] * odds(way)[1]) safe = way;
    }
    if (safe == null) return -1;
    if (what >= 10) return roadOf(safe, what - 10);
    long[] o = odds(safe);
    for (long d = 100000; d > 1; d--) {
      if (o[0] % d == 0 && o[1] % d == 0) {
        o[0] /= d;
        o[1] /= d;
      }
    }
    return (int) o[what];
  }

  int needed(int from, int to) {
    if (!isTown(from) || !isTown(to)) return -2;
    List<List<Integer>> all = allWays(from, to, world.day);
    if (all.isEmpty()) return 0;
    int bits = 0;
    for (int r = 0; r < map.roads.size(); r++) {
      int shut = r;
      if (all.stream().noneMatch(way -> !way.contains(shut))) bits += 1 << r;
    }
    return bits;
  }

  int leave(int from, int to, int load) {
    if (!isTown(from) || !isTown(to)) return -2;
    if (load < 1 || load > 999) return -3;
    int most = -1, when = -1;
    for (int n = 0; n <= 99; n++) {
      List<Integer> way = bestWay(from, to, world.day + n, load, world.rates, -1);
      if (way == null) continue;
      int left = go(way, world.day + n, load, world.rates, -1, -1)[2][0];
      if (left > most) {
        most = left;
        when = n;
      }
    }
    return when;
  }

  // ---- rates

  int incomeOf(int t, int rate) {
    int[] rates = world.rates.clone();
    rates[t] = rate;
    int sum = 0;
    for (Caravan v : world.caravans) {
      if (v.road >= 0 || v.town == v.goal) continue;
      List<Integer> way = bestWay(v.town, v.goal, world.day, v.load, rates, -1);
      if (way != null) sum += tookAt(way, v.load, t, rates);
    }
    return sum;
  }

  int arrivesOf(int free) {
    int sum = 0;
    for (Caravan v : world.caravans) {
      if (v.road >= 0 || v.town == v.goal) continue;
      List<Integer> way = bestWay(v.town, v.goal, world.day, v.load, world.rates, free);
      if (way != null) sum += go(way, world.day, v.load, world.rates, free, -1)[2][0];
    }
    return sum;
  }

  int income(int t) {
    return isTown(t) ? incomeOf(t, world.rates[t]) : -2;
  }

  int arrives() {
    return arrivesOf(-1);
  }

  int bestRate(int t) {
    if (!isTown(t)) return -2;
    int best = 0;
    for (int n = 1; n <= 9; n++) best = incomeOf(t, n) > incomeOf(t, best) ? n : best;
    return best;
  }

  int tempted() {
    int bits = 0;
    for (int t = 0; t < map.towns; t++) bits += incomeOf(t, bestRate(t)) > income(t) ? 1 << t : 0;
    return bits;
  }

  int grasping() {
    int town = -1, most = 0;
    for (int t = 0; t < map.towns; t++) {
      int more = arrivesOf(t) - arrives();
      if (more > most) {
        most = more;
        town = t;
      }
    }
    return town;
  }

  // ---- short loads

  int codeOf(int tray, int from, int to, int load) {
    if (tray < 0 || tray > 3 || !isTown(from) || !isTown(to)) return -2;
    if (trays[tray] == null) return -6;
    if (load < 1 || load > 999) return -3;
    return bestWay(from, to, world.day, load, world.rates, -1) == null ? -5 : 0;
  }

  /** Rows of loads behind the gates, one for each gate that can have been; null for one that can't. */
  List<int[]> suspects(long[] seen, List<Integer> way, int load) {
    List<int[]> rows = new ArrayList<>();
    for (int k = 0; k < way.size(); k++) {
      int[] behind = go(way, world.day, load, world.rates, -1, k)[0];
      boolean can = true;
      for (int i = 0; i < behind.length; i++) can &= seen[i] == -1 || seen[i] == behind[i];
      rows.add(can ? behind : null);
    }
    return rows;
  }

  int lacks(int tray, int from, int to, int load) {
    int code = codeOf(tray, from, to, load);
    if (code < 0) return code;
    List<Integer> way = bestWay(from, to, world.day, load, world.rates, -1);
    if (way.size() != trays[tray].length) return -4;
    List<int[]> rows = suspects(trays[tray], way, load);
    int bits = 0;
    for (int k = 0; k < way.size(); k++) bits += rows.get(k) == null ? 0 : 1 << map.roads.get(way.get(k)).to;
    return bits;
  }

  int weigh(int tray, int from, int to, int load) {
    int towns = lacks(tray, from, to, load);
    if (towns < 0) return towns;
    if (towns == 0) return -1;
    List<Integer> way = bestWay(from, to, world.day, load, world.rates, -1);
    List<int[]> rows = suspects(trays[tray], way, load);
    int least = 99, where = -1;
    for (int i = 0; i < way.size(); i++) {
      Map<Integer, Integer> groups = new HashMap<>();
      for (int[] row : rows) {
        if (row != null) groups.merge(row[i], 1, Integer::sum);
      }
      int greatest = Collections.max(groups.values());
      if (greatest < least) {
        least = greatest;
        where = i;
      }
    }
    return where;
  }

  int worst(int from, int to, int load) {
    if (!isTown(from) || !isTown(to)) return -2;
    if (load < 1 || load > 999) return -3;
    List<Integer> way = bestWay(from, to, world.day, load, world.rates, -1);
    if (way == null) return -5;
    int least = Integer.MAX_VALUE;
    for (int k = 0; k < way.size(); k++) least = Math.min(least, go(way, world.day, load, world.rates, -1, k)[2][0]);
    return way.isEmpty() ? -1 : least;
  }

  // ---- trays, images

  int numbers(int tray, int sort, int n) {
    if (tray < 0 || tray > 3 || sort < 0 || sort > 3) return -2;
    if (n < 0 || n > 40) return -3;
    trays[tray] = new long[n];
    sorts[tray] = sort;
    return 0;
  }

  long cut(int tray, long v) {
    int away = 64 - (8 << sorts[tray]);
    return v << away >> away;
  }

  long write(int tray, int i, long v) {
    if (tray < 0 || tray > 3) return -2;
    if (trays[tray] == null) return -6;
    if (i < 0 || i >= trays[tray].length) return -7;
    trays[tray][i] = cut(tray, v);
    return trays[tray][i];
  }

  int lists(int tray, int from, int to, int load) {
    int code = codeOf(tray, from, to, load);
    if (code < 0) return code;
    List<Integer> way = bestWay(from, to, world.day, load, world.rates, -1);
    int[] behind = go(way, world.day, load, world.rates, -1, -1)[0];
    int n = 0;
    while (n < behind.length && n < trays[tray].length) {
      trays[tray][n] = cut(tray, behind[n]);
      n++;
    }
    return n;
  }

  int image(int i) {
    if (i < 0 || i > 1) return -2;
    imageMaps[i] = map;
    imageWorlds[i] = world.copy();
    return 0;
  }

  int restore(int i) {
    if (i < 0 || i > 1) return -2;
    if (imageMaps[i] == null) return -5;
    map = imageMaps[i];
    world = imageWorlds[i].copy();
    past.clear();
    return 0;
  }

  int count(int what) {
    int there = 0, away = 0;
    for (int c = 0; c < world.caravans.size(); c++) {
      Caravan v = world.caravans.get(c);
      if (v.road >= 0) away += 1 << c;
      else if (v.town == v.goal) there += 1 << c;
    }
    switch (what) {
      case 0: return map.towns;
      case 1: return map.roads.size();
      case 2: return world.caravans.size();
      case 3: return there;
      case 4: return away;
      case 5: return world.caravans.stream().mapToInt(c -> c.load).sum();
      case 6: return Arrays.stream(world.chests).sum();
      case 7: return world.day;
      case 8: return month(world.day);
      case 9: return past.size();
      case 10: return tape.length();
      case 11: return map.lines;
      default: return -1;
    }
  }
}
