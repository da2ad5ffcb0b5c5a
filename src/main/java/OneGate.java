import java.util.Arrays;

/** Roads of incense, told as a text: see README.md, and the document's promises 1 to 41. */
public final class OneGate {
  public static final int NONE = -1;

  private static final int MAX_TEXT = 900;
  private static final int MAX_TOWNS = 6;
  private static final int MAX_ROADS = 10;
  private static final int MAX_CARAVANS = 6;
  private static final int MAX_LOAD = 999;
  private static final int MAX_AHEAD = 999;
  private static final int MAX_UNDONE = 10;
  private static final int MAX_NUMBERS = 40;
  private static final int MAX_WAY = MAX_TOWNS - 1;
  private static final int TRAYS = 4;
  private static final int IMAGES = 2;

  private static final int DAY_DEED = 200;
  private static final int RATE_DEED = 100;

  private static final int NO_SUCH = -2;
  private static final int BAD_NUMBER = -3;
  private static final int TOO_MANY = -4;
  private static final int NOT_NOW = -5;
  private static final int MISSING = -6;
  private static final int NO_PLACE = -7;
  private static final int WHY_NOT = -10;
  private static final int FAULTY = -30;

  private final byte[] tape = new byte[MAX_TEXT];
  private int taped = 0;
  private final Reader reader = new Reader();
  private int faultKind = 0;
  private int faultPlace = NONE;

  private Plan plan = new Plan();
  private final State now = new State();
  private final State spare = new State();
  private final State[] past = new State[MAX_UNDONE];
  private int pastCount = 0;
  private final Plan[] imagePlans = new Plan[IMAGES];
  private final State[] imageStates = new State[IMAGES];
  private final Tray[] trays = new Tray[TRAYS];
  private final Walker walker = new Walker();

  public OneGate() {
    for (int i = 0; i < past.length; i++) past[i] = new State();
    for (int i = 0; i < imageStates.length; i++) imageStates[i] = new State();
    for (int i = 0; i < trays.length; i++) trays[i] = new Tray();
  }

  // ---- the roads

  public int feed(int a, int b, int c, int d, int e) {
    if (taped + 20 > MAX_TEXT) return NOT_NOW;
    putOnTape(a);
    putOnTape(b);
    putOnTape(c);
    putOnTape(d);
    putOnTape(e);
    return taped;
  }

  private void putOnTape(int word) {
    for (int shift = 24; shift >= 0 && taped < tape.length; shift -= 8) {
      tape[taped] = (byte) (word >> shift);
      taped++;
    }
  }

  public int roads(int n) {
    if (n < 0 || n > taped) return BAD_NUMBER;
    boolean faultless = reader.read(tape, n);
    taped = 0;
    faultKind = reader.fault;
    faultPlace = reader.faultPlace;
    if (!faultless) return FAULTY - faultKind;
    plan = reader.plan;
    now.copyFrom(reader.start);
    pastCount = 0;
    return plan.lines;
  }

  public int fault(int what) {
    if (what == 0) return faultKind;
    return what == 1 ? faultPlace : NONE;
  }

  public int town(int t, int what) {
    if (!isTown(t)) return NO_SUCH;
    switch (what) {
      case 0: return now.rates[t];
      case 1: return now.chests[t];
      case 2: return plan.roadsFrom(t);
      case 3: return now.caravansIn(t);
      default: return NO_SUCH;
    }
  }

  public int road(int r, int what) {
    if (!isRoad(r)) return NO_SUCH;
    switch (what) {
      case 0: return plan.from[r];
      case 1: return plan.to[r];
      case 2: return plan.length[r];
      case 3: return plan.risk[r];
      case 4: return plan.bySea[r];
      default: return NO_SUCH;
    }
  }

  public int caravan(int c, int what) {
    if (c < 0 || c >= now.caravans) return NO_SUCH;
    switch (what) {
      case 0: return now.at[c];
      case 1: return now.on[c];
      case 2: return now.left[c];
      case 3: return now.goal[c];
      case 4: return now.load[c];
      default: return NO_SUCH;
    }
  }

  public int dues(int t, int load, boolean sea) {
    if (!isTown(t)) return NO_SUCH;
    if (load < 0 || load > MAX_LOAD) return BAD_NUMBER;
    return plan.takenAt(t, now.rates[t], load, now.day, sea ? 1 : 0);
  }

  public int eats(int r, int load) {
    if (!isRoad(r)) return NO_SUCH;
    if (load < 0 || load > MAX_LOAD) return BAD_NUMBER;
    return plan.eatenOn(r, load, now.day);
  }

  public int open(int r, int n) {
    if (!isRoad(r)) return NO_SUCH;
    if (n < 0 || n > MAX_AHEAD) return BAD_NUMBER;
    return plan.isOpen(r, now.day + n) ? 1 : 0;
  }

  private boolean isTown(int t) {
    return t >= 0 && t < plan.towns;
  }

  private boolean isRoad(int r) {
    return r >= 0 && r < plan.roads;
  }

  private static boolean isLoad(int load) {
    return load >= 1 && load <= MAX_LOAD;
  }

  // ---- deeds

  public int seed(int n) {
    remember(now);
    int was = now.x;
    now.x = n;
    return was;
  }

  public int start(int at, int to, int load) {
    if (!isTown(at) || !isTown(to)) return NO_SUCH;
    if (!isLoad(load)) return BAD_NUMBER;
    if (now.caravans >= MAX_CARAVANS) return TOO_MANY;
    remember(now);
    now.addCaravan(at, to, load);
    return now.caravans - 1;
  }

  public int send(int c, int r) {
    int why = now.whyNotSent(plan, c, r);
    if (why != 0) return WHY_NOT - why;
    remember(now);
    now.sendOn(plan, c, r);
    return plan.length[r];
  }

  public int rate(int t, int n) {
    if (!isTown(t)) return NO_SUCH;
    if (n < 0 || n > 9) return BAD_NUMBER;
    remember(now);
    int was = now.rates[t];
    now.rates[t] = n;
    return was;
  }

  public int days(int n, boolean robbers) {
    if (n < 1 || n > 99) return BAD_NUMBER;
    remember(now);
    int arrived = 0;
    for (int i = 0; i < n; i++) arrived += now.passDay(plan, robbers);
    return arrived;
  }

  public int undo(int n) {
    if (n < 1 || n > pastCount) return BAD_NUMBER;
    pastCount -= n;
    now.copyFrom(past[pastCount]);
    return pastCount;
  }

  public int judge(int tray, int what) {
    if (!isTray(tray) || what < 0 || what > 3) return NO_SUCH;
    Tray deeds = trays[tray];
    if (deeds.isMissing()) return MISSING;
    spare.copyFrom(now);
    int done = doDeeds(spare, deeds);
    boolean all = done == deeds.size;
    switch (what) {
      case 0: return all ? NONE : done;
      case 1: return all ? 0 : spare.whyNot(plan, deeds.numberAt(done));
      case 2: return spare.allLoads();
      default: return spare.allChests();
    }
  }

  public int perform(int tray) {
    if (!isTray(tray)) return NO_SUCH;
    if (trays[tray].isMissing()) return MISSING;
    spare.copyFrom(now);
    int done = doDeeds(now, trays[tray]);
    if (done > 0) remember(spare);
    return done;
  }

  public int year(int seed, int times) {
    if (times < 1 || times > 40) return BAD_NUMBER;
    spare.copyFrom(now);
    now.x = seed;
    int done = 0;
    for (int i = 0; i < times; i++) {
      if (now.tryDeed(plan, now.drawDeed()) == 0) done++;
    }
    if (done > 0) remember(spare);
    else now.copyFrom(spare);
    return done;
  }

  /** Does them on a state until one can't be; answers how many were done. */
  private int doDeeds(State state, Tray deeds) {
    for (int i = 0; i < deeds.size; i++) {
      if (state.tryDeed(plan, deeds.numberAt(i)) != 0) return i;
    }
    return deeds.size;
  }

  /** Keeps how it was ahead of a call; the eldest is forgotten when there are too many. */
  private void remember(State before) {
    if (pastCount == MAX_UNDONE) {
      State eldest = past[0];
      for (int i = 1; i < MAX_UNDONE; i++) past[i - 1] = past[i];
      past[MAX_UNDONE - 1] = eldest;
      pastCount--;
    }
    past[pastCount].copyFrom(before);
    pastCount++;
  }

  // ---- ways

  public int ways(int from, int to) {
    if (!isTown(from) || !isTown(to)) return NO_SUCH;
    seekAll(from, to);
    return walker.found;
  }

  public int reach(int from, int n) {
    if (!isTown(from)) return NO_SUCH;
    if (n < 0 || n > MAX_AHEAD) return BAD_NUMBER;
    walker.prepare(plan, now);
    int towns = 0;
    for (int t = 0; t < plan.towns; t++) {
      walker.seekAll(from, t, now.day + n);
      if (walker.found > 0) towns |= 1 << t;
    }
    return towns;
  }

  public int best(int from, int to, int load, int what) {
    if (what != 0 && what != 1 && !isRoadOfWay(what)) return NO_SUCH;
    int code = seekMost(from, to, load);
    if (code != 0) return code == NOT_NOW ? NONE : code;
    if (what == 0) return walker.most.arrives;
    return what == 1 ? walker.most.days : walker.most.roadAt(what - 10);
  }

  public int takes(int from, int to, int load, int t) {
    if (!isTown(t)) return NO_SUCH;
    int code = seekMost(from, to, load);
    if (code != 0) return code == NOT_NOW ? NONE : code;
    walker.follow(load, NONE);
    return walker.takenBy(t);
  }

  public int soonest(int from, int to, int what) {
    if (!isTown(from) || !isTown(to)) return NO_SUCH;
    if (what != 0 && !isRoadOfWay(what)) return NO_SUCH;
    seekAll(from, to);
    if (walker.found == 0) return NONE;
    return what == 0 ? walker.soon.days : walker.soon.roadAt(what - 10);
  }

  public int safest(int from, int to, int what) {
    if (!isTown(from) || !isTown(to)) return NO_SUCH;
    if (what != 0 && what != 1 && !isRoadOfWay(what)) return NO_SUCH;
    seekAll(from, to);
    if (walker.found == 0) return NONE;
    if (what >= 10) return walker.safe.roadAt(what - 10);
    int odds = walker.safe.odds;
    int common = commonDivisor(Way.SURE, odds);
    if (common < 1) return NONE;
    return (what == 0 ? odds : Way.SURE) / common;
  }

  public int needed(int from, int to) {
    if (!isTown(from) || !isTown(to)) return NO_SUCH;
    seekAll(from, to);
    return walker.found == 0 ? 0 : walker.shared;
  }

  public int leave(int from, int to, int load) {
    if (!isTown(from) || !isTown(to)) return NO_SUCH;
    if (!isLoad(load)) return BAD_NUMBER;
    walker.prepare(plan, now);
    int most = NONE;
    int day = NONE;
    for (int n = 0; n < 100 && most < load; n++) {
      walker.seekMost(from, to, now.day + n, load);
      if (walker.found > 0 && walker.most.arrives > most) {
        most = walker.most.arrives;
        day = n;
      }
    }
    return day;
  }

  private static boolean isRoadOfWay(int what) {
    return what >= 10 && what < 10 + MAX_WAY;
  }

  private static int commonDivisor(int a, int b) {
    int high = a;
    int low = b;
    for (int i = 0; i < 32 && low != 0; i++) {
      int rest = high % low;
      high = low;
      low = rest;
    }
    return high;
  }

  private void seekAll(int from, int to) {
    walker.prepare(plan, now);
    walker.seekAll(from, to, now.day);
  }

  /** Seeks THE BEST WAY begun today: 0, or the code that refuses it. */
  private int seekMost(int from, int to, int load) {
    if (!isTown(from) || !isTown(to)) return NO_SUCH;
    if (!isLoad(load)) return BAD_NUMBER;
    walker.prepare(plan, now);
    walker.seekMost(from, to, now.day, load);
    return walker.found > 0 ? 0 : NOT_NOW;
  }

  // ---- rates

  public int income(int t) {
    if (!isTown(t)) return NO_SUCH;
    return incomeBy(t, now.rates[t]);
  }

  public int arrives() {
    return arrivesWithout(NONE);
  }

  public int bestRate(int t) {
    if (!isTown(t)) return NO_SUCH;
    int most = NONE;
    int rate = 0;
    for (int n = 0; n <= 9; n++) {
      int income = incomeBy(t, n);
      if (income > most) {
        most = income;
        rate = n;
      }
    }
    return rate;
  }

  public int tempted() {
    int towns = 0;
    for (int t = 0; t < plan.towns; t++) {
      int income = incomeBy(t, now.rates[t]);
      boolean more = false;
      for (int n = 0; n <= 9 && !more; n++) more = incomeBy(t, n) > income;
      if (more) towns |= 1 << t;
    }
    return towns;
  }

  public int grasping() {
    int most = arrivesWithout(NONE);
    int town = NONE;
    for (int t = 0; t < plan.towns; t++) {
      int sum = arrivesWithout(t);
      if (sum > most) {
        most = sum;
        town = t;
      }
    }
    return town;
  }

  private int incomeBy(int t, int rate) {
    walker.prepare(plan, now);
    walker.rates[t] = rate;
    int sum = 0;
    for (int c = 0; c < now.caravans; c++) {
      if (!now.hasYetToGo(c)) continue;
      walker.seekMost(now.at[c], now.goal[c], now.day, now.load[c]);
      if (walker.found == 0) continue;
      walker.follow(now.load[c], NONE);
      sum += walker.takenBy(t);
    }
    return sum;
  }

  /** What would ARRIVE in all, if the GATE of one TOWN (or of none) TOOK nothing. */
  private int arrivesWithout(int gate) {
    walker.prepare(plan, now);
    walker.freeGate = gate;
    int sum = 0;
    for (int c = 0; c < now.caravans; c++) {
      if (!now.hasYetToGo(c)) continue;
      walker.seekMost(now.at[c], now.goal[c], now.day, now.load[c]);
      if (walker.found > 0) sum += walker.most.arrives;
    }
    return sum;
  }

  // ---- short loads

  public int lacks(int tray, int from, int to, int load) {
    int code = seekSeen(tray, from, to, load);
    if (code != 0) return code;
    int towns = 0;
    for (int k = 0; k < walker.most.size; k++) {
      if (canHaveKept(trays[tray], k)) towns |= 1 << plan.to[walker.most.roads[k]];
    }
    return towns;
  }

  public int weigh(int tray, int from, int to, int load) {
    int code = seekSeen(tray, from, to, load);
    if (code != 0) return code;
    int keepers = 0;
    for (int k = 0; k < walker.most.size; k++) {
      if (canHaveKept(trays[tray], k)) keepers |= 1 << k;
    }
    if (keepers == 0) return NONE;
    int least = MAX_WAY + 1;
    int place = NONE;
    for (int i = 0; i < walker.most.size; i++) {
      int alike = mostAlike(keepers, i);
      if (alike < least) {
        least = alike;
        place = i;
      }
    }
    return place;
  }

  public int worst(int from, int to, int load) {
    int code = seekMost(from, to, load);
    if (code != 0) return code;
    walker.followEach(load);
    int size = walker.most.size;
    int least = NONE;
    for (int k = 0; k < size; k++) {
      int arrived = walker.caseOf(k, size - 1);
      if (least == NONE || arrived < least) least = arrived;
    }
    return least;
  }

  /** Follows THE BEST WAY once for each GATE that may have kept a tenth: 0, or the refusing code. */
  private int seekSeen(int tray, int from, int to, int load) {
    int code = refusedTray(tray, from, to);
    if (code == 0) code = seekMost(from, to, load);
    if (code != 0) return code;
    if (trays[tray].size != walker.most.size) return TOO_MANY;
    walker.followEach(load);
    return 0;
  }

  /** The code of a TRAY or a TOWN that there isn't, told ahead of the LOAD's; else 0. */
  private int refusedTray(int tray, int from, int to) {
    if (!isTray(tray) || !isTown(from) || !isTown(to)) return NO_SUCH;
    return trays[tray].isMissing() ? MISSING : 0;
  }

  private boolean canHaveKept(Tray seen, int keeper) {
    for (int i = 0; i < seen.size; i++) {
      long weighed = seen.numberAt(i);
      if (weighed != NONE && weighed != walker.caseOf(keeper, i)) return false;
    }
    return true;
  }

  /** The greatest number of keepers (bits along the way) with the same LOAD behind GATE i. */
  private int mostAlike(int keepers, int i) {
    int most = 0;
    for (int k = 0; k < walker.most.size; k++) {
      int alike = 0;
      for (int j = 0; j < walker.most.size; j++) {
        boolean both = (keepers >> k & keepers >> j & 1) != 0;
        if (both && walker.caseOf(k, i) == walker.caseOf(j, i)) alike++;
      }
      most = Math.max(most, alike);
    }
    return most;
  }

  // ---- trays, images

  public int numbers(int tray, int sort, int n) {
    if (!isTray(tray) || sort < 0 || sort > 3) return NO_SUCH;
    if (n < 0 || n > MAX_NUMBERS) return BAD_NUMBER;
    trays[tray].layOut(sort, n);
    return 0;
  }

  public long write(int tray, int i, long v) {
    if (!isTray(tray)) return NO_SUCH;
    if (trays[tray].isMissing()) return MISSING;
    if (i < 0 || i >= trays[tray].size) return NO_PLACE;
    trays[tray].put(i, v);
    return trays[tray].numberAt(i);
  }

  public int lists(int tray, int from, int to, int load) {
    int code = refusedTray(tray, from, to);
    if (code == 0) code = seekMost(from, to, load);
    if (code != 0) return code;
    walker.follow(load, NONE);
    int n = Math.min(trays[tray].size, walker.most.size);
    for (int i = 0; i < n; i++) trays[tray].put(i, walker.behind[i]);
    return n;
  }

  public int image(int i) {
    if (i < 0 || i >= IMAGES) return NO_SUCH;
    imagePlans[i] = plan;
    imageStates[i].copyFrom(now);
    return 0;
  }

  public int restore(int i) {
    if (i < 0 || i >= IMAGES) return NO_SUCH;
    Plan kept = imagePlans[i];
    if (kept == null) return NOT_NOW;
    plan = kept;
    now.copyFrom(imageStates[i]);
    pastCount = 0;
    return 0;
  }

  public int count(int what) {
    switch (what) {
      case 0: return plan.towns;
      case 1: return plan.roads;
      case 2: return now.caravans;
      case 3: return now.caravansThere();
      case 4: return now.caravansIn(NONE);
      case 5: return now.allLoads();
      case 6: return now.allChests();
      case 7: return now.day;
      case 8: return Plan.monthOf(now.day);
      case 9: return pastCount;
      case 10: return taped;
      case 11: return plan.lines;
      default: return NONE;
    }
  }

  private static boolean isTray(int tray) {
    return tray >= 0 && tray < TRAYS;
  }

  /** A law as a row of steps for a stack: numbers from 0 on are themselves, steps are below 0. */
  private static final class Law {
    static final int MONTH = -1;
    static final int SEA = -2;
    static final int PLACE = -3;
    static final int RATE = -4;
    static final int LOAD = -5;
    static final int NOT = -6;
    static final int PLUS = -7;
    static final int MINUS = -8;
    static final int TIMES = -9;
    static final int SAME = -10;
    static final int LESS = -11;
    static final int MORE = -12;
    static final int AND = -13;
    static final int OR = -14;
    static final int NO_STEP = -15;

    private static final long KEPT = 1_000_000;
    /** Six of not [ ( within one another leave at most 18 values waiting. */
    private static final int WAITING = 32;

    private final int[] steps;
    private final int[] stack = new int[WAITING];
    final boolean tellsOfLoad;

    Law(int[] row, int size) {
      steps = Arrays.copyOf(row, Math.max(0, size));
      boolean load = false;
      for (int i = 0; i < steps.length; i++) load |= steps[i] == LOAD;
      tellsOfLoad = load;
    }

    int tell(int place, int rate, int load, int month, int sea) {
      int top = 0;
      for (int i = 0; i < steps.length; i++) {
        int step = steps[i];
        if (step > NOT && top < WAITING) {
          stack[top] = given(step, place, rate, load, month, sea);
          top++;
        } else if (step == NOT && top > 0) {
          stack[top - 1] = 1 - stack[top - 1];
        } else if (step < NOT && top > 1 && top <= WAITING) {
          top--;
          long n = joined(step, stack[top - 1], stack[top]);
          stack[top - 1] = (int) Math.max(-KEPT, Math.min(KEPT, n));
        }
      }
      return stack[0];
    }

    private static int given(int step, int place, int rate, int load, int month, int sea) {
      switch (step) {
        case MONTH: return month;
        case SEA: return sea;
        case PLACE: return place;
        case RATE: return rate;
        case LOAD: return load;
        default: return step;
      }
    }

    private static long joined(int step, long a, long b) {
      switch (step) {
        case PLUS: return a + b;
        case MINUS: return a - b;
        case TIMES: return a * b;
        case SAME: return a == b ? 1 : 0;
        case LESS: return a < b ? 1 : 0;
        case MORE: return a > b ? 1 : 0;
        case AND: return a & b;
        default: return a | b;
      }
    }
  }

  /** What a text tells of TOWNS, roads and laws; never changed once it has been read. */
  private static final class Plan {
    private static final int[] TAKE_RATE = {Law.RATE};
    private static final int[] EAT_NOTHING = {0};
    private static final int[] ALWAYS = {1};

    int towns = 2;
    int roads = 0;
    int lines = 0;
    final int[] from = new int[MAX_ROADS];
    final int[] to = new int[MAX_ROADS];
    final int[] length = new int[MAX_ROADS];
    final int[] risk = new int[MAX_ROADS];
    final int[] bySea = new int[MAX_ROADS];
    Law dues = new Law(TAKE_RATE, 1);
    Law eats = new Law(EAT_NOTHING, 1);
    Law opens = new Law(ALWAYS, 1);

    static int monthOf(int day) {
      return day / 30 % 12;
    }

    void addRoad(int begin, int end, int days, int robbed, int sea) {
      if (roads >= MAX_ROADS) return;
      from[roads] = begin;
      to[roads] = end;
      length[roads] = days;
      risk[roads] = robbed;
      bySea[roads] = sea;
      roads++;
    }

    int roadsFrom(int town) {
      int bits = 0;
      for (int r = 0; r < roads; r++) {
        if (from[r] == town) bits |= 1 << r;
      }
      return bits;
    }

    int takenAt(int town, int rate, int load, int day, int sea) {
      if (load <= 0) return 0;
      int told = dues.tell(town, rate, load, monthOf(day), sea);
      return Math.max(0, Math.min(load, told));
    }

    int eatenOn(int r, int load, int day) {
      if (load <= 0) return 0;
      int told = eats.tell(r, 0, load, monthOf(day), bySea[r]);
      return Math.max(0, Math.min(load, told));
    }

    boolean isOpen(int r, int day) {
      return opens.tell(r, 0, 0, monthOf(day), bySea[r]) != 0;
    }

    /** The LOAD at the end of a road begun on a day, ahead of the GATE. */
    int leftAfter(int r, int load, int day) {
      int left = load;
      int told = 0;
      int toldOf = NONE;
      for (int i = 0; i < length[r] && left > 0; i++) {
        int month = monthOf(day + i);
        // A law that doesn't tell of the LOAD tells the same all month: it need not be asked anew.
        if (eats.tellsOfLoad || month != toldOf) {
          told = eats.tell(r, 0, left, month, bySea[r]);
          toldOf = month;
        }
        left -= Math.max(0, Math.min(left, told));
      }
      return left;
    }
  }

  /** What deeds change, and what undoing brings back. */
  private static final class State {
    int caravans = 0;
    int day = 0;
    int x = 0;
    final int[] rates = new int[MAX_TOWNS];
    final int[] chests = new int[MAX_TOWNS];
    final int[] at = new int[MAX_CARAVANS];
    final int[] on = new int[MAX_CARAVANS];
    final int[] left = new int[MAX_CARAVANS];
    final int[] goal = new int[MAX_CARAVANS];
    final int[] load = new int[MAX_CARAVANS];

    State() {
      Arrays.fill(rates, 1);
    }

    void clear() {
      caravans = 0;
      day = 0;
      x = 0;
      Arrays.fill(rates, 1);
      Arrays.fill(chests, 0);
    }

    void copyFrom(State other) {
      caravans = other.caravans;
      day = other.day;
      x = other.x;
      System.arraycopy(other.rates, 0, rates, 0, MAX_TOWNS);
      System.arraycopy(other.chests, 0, chests, 0, MAX_TOWNS);
      System.arraycopy(other.at, 0, at, 0, MAX_CARAVANS);
      System.arraycopy(other.on, 0, on, 0, MAX_CARAVANS);
      System.arraycopy(other.left, 0, left, 0, MAX_CARAVANS);
      System.arraycopy(other.goal, 0, goal, 0, MAX_CARAVANS);
      System.arraycopy(other.load, 0, load, 0, MAX_CARAVANS);
    }

    void addCaravan(int town, int to, int size) {
      if (caravans >= MAX_CARAVANS) return;
      at[caravans] = town;
      on[caravans] = NONE;
      left[caravans] = 0;
      goal[caravans] = to;
      load[caravans] = size;
      caravans++;
    }

    /** CARAVANS in a TOWN, or with NONE those on roads, as bits. */
    int caravansIn(int town) {
      int bits = 0;
      for (int c = 0; c < caravans; c++) {
        if (at[c] == town) bits |= 1 << c;
      }
      return bits;
    }

    int caravansThere() {
      int bits = 0;
      for (int c = 0; c < caravans; c++) {
        if (at[c] == goal[c]) bits |= 1 << c;
      }
      return bits;
    }

    boolean hasYetToGo(int c) {
      return at[c] != NONE && at[c] != goal[c];
    }

    int allLoads() {
      int sum = 0;
      for (int c = 0; c < caravans; c++) sum += load[c];
      return sum;
    }

    int allChests() {
      int sum = 0;
      for (int t = 0; t < MAX_TOWNS; t++) sum += chests[t];
      return sum;
    }

    int draw() {
      x = 1103515245 * x + 12345;
      return x >>> 16;
    }

    /** What a YEAR draws next, as a DEED in a TRAY. */
    int drawDeed() {
      int kind = draw() % 4;
      if (kind < 2) return DAY_DEED;
      int first = draw() % 10;
      int second = draw() % 10;
      return (kind == 2 ? 0 : RATE_DEED) + first * 10 + second;
    }

    int whyNotSent(Plan plan, int c, int r) {
      if (c < 0 || c >= caravans || r < 0 || r >= plan.roads) return 1;
      if (at[c] == NONE || at[c] != plan.from[r]) return 2;
      return plan.isOpen(r, day) ? 0 : 3;
    }

    /** Why a DEED of a TRAY can't be; 0: it can. */
    int whyNot(Plan plan, long deed) {
      if (deed == NONE || deed == DAY_DEED) return 0;
      if (deed < 0 || deed > DAY_DEED) return 1;
      int n = (int) deed;
      if (n < RATE_DEED) return whyNotSent(plan, n / 10, n % 10);
      return (n - RATE_DEED) / 10 < plan.towns ? 0 : 1;
    }

    /** Does a DEED of a TRAY, if it can be: why not, as whyNot(). */
    int tryDeed(Plan plan, long deed) {
      int why = whyNot(plan, deed);
      if (why != 0) return why;
      int n = (int) deed;
      if (n == DAY_DEED || n == NONE) passDay(plan, n == DAY_DEED);
      else if (n < RATE_DEED) sendOn(plan, n / 10, n % 10);
      else rates[(n - RATE_DEED) / 10] = n % 10;
      return 0;
    }

    void sendOn(Plan plan, int c, int r) {
      at[c] = NONE;
      on[c] = r;
      left[c] = plan.length[r];
    }

    /** A DAY goes by: how many ARRIVED. */
    int passDay(Plan plan, boolean robbers) {
      int arrived = 0;
      for (int c = 0; c < caravans; c++) {
        int r = on[c];
        if (r < 0 || r >= plan.roads) continue;
        load[c] -= plan.eatenOn(r, load[c], day);
        left[c]--;
        if (left[c] > 0) continue;
        if (robbers && plan.risk[r] > 0 && draw() % 10 < plan.risk[r]) load[c] -= load[c] / 10;
        int town = plan.to[r];
        int taken = plan.takenAt(town, rates[town], load[c], day, plan.bySea[r]);
        load[c] -= taken;
        chests[town] += taken;
        at[c] = town;
        on[c] = NONE;
        arrived++;
      }
      day++;
      return arrived;
    }
  }

  /** Some roads one behind the other, and what comes of them. */
  private static final class Way {
    /** Odds are told in so many: a tenth for each of the most roads that a WAY can have. */
    static final int SURE = 100_000;

    final int[] roads = new int[MAX_WAY];
    int size = 0;
    int days = 0;
    int arrives = 0;
    int odds = SURE;

    void keep(int[] trail, int n, int daysTaken, int load, int chance) {
      size = Math.max(0, Math.min(n, MAX_WAY));
      System.arraycopy(trail, 0, roads, 0, size);
      days = daysTaken;
      arrives = load;
      odds = chance;
    }

    int roadAt(int k) {
      return k >= 0 && k < size ? roads[k] : NONE;
    }
  }

  /** Tries WAYS in the order of their roads, so that the first of equals is found first. */
  private static final class Walker {
    private Plan plan = new Plan();
    private int first = 0;
    private int goal = 0;
    private boolean onlyMost = false;
    private final int[] trail = new int[MAX_WAY];
    private final int[] taken = new int[MAX_WAY];
    private final int[] cases = new int[MAX_WAY * MAX_WAY];

    final int[] rates = new int[MAX_TOWNS];
    int freeGate = NONE;
    int found = 0;
    int shared = 0;
    final Way most = new Way();
    final Way soon = new Way();
    final Way safe = new Way();
    final int[] behind = new int[MAX_WAY];

    void prepare(Plan today, State state) {
      plan = today;
      System.arraycopy(state.rates, 0, rates, 0, MAX_TOWNS);
      freeGate = NONE;
    }

    /** Finds all WAYS: found, shared, soon and safe tell of them. */
    void seekAll(int from, int to, int day) {
      begin(to, day, false);
      walk(from, 1 << from, 0, day, 0, Way.SURE);
    }

    /** Finds THE BEST WAY of a LOAD: most tells of it, found is above 0 if there is one. */
    void seekMost(int from, int to, int day, int load) {
      begin(to, day, true);
      walk(from, 1 << from, 0, day, load, Way.SURE);
    }

    private void begin(int to, int day, boolean most) {
      goal = to;
      first = day;
      onlyMost = most;
      found = 0;
      shared = -1;
    }

    private void walk(int town, int seen, int depth, int day, int load, int odds) {
      // A LOAD never grows along a WAY: what isn't more now can't be more at the end.
      if (onlyMost && found > 0 && load <= most.arrives) return;
      if (town == goal) {
        keepWay(depth, day - first, load, odds);
        return;
      }
      if (depth >= MAX_WAY) return;
      for (int r = 0; r < plan.roads; r++) {
        int next = plan.to[r];
        if (plan.from[r] != town || (seen >> next & 1) != 0 || !plan.isOpen(r, day)) continue;
        trail[depth] = r;
        int arrival = day + plan.length[r];
        int left = plan.leftAfter(r, load, day);
        // The GATE sees the DAY as it is, the last one on the road.
        if (next != freeGate) left -= plan.takenAt(next, rates[next], left, arrival - 1, plan.bySea[r]);
        walk(next, seen | 1 << next, depth + 1, arrival, left, odds / 10 * (10 - plan.risk[r]));
      }
    }

    private void keepWay(int depth, int days, int load, int odds) {
      if (found == 0 || load > most.arrives) most.keep(trail, depth, days, load, odds);
      if (found == 0 || days < soon.days) soon.keep(trail, depth, days, load, odds);
      if (found == 0 || odds > safe.odds) safe.keep(trail, depth, days, load, odds);
      int used = 0;
      for (int k = 0; k < depth && k < MAX_WAY; k++) used |= 1 << trail[k];
      shared &= used;
      found++;
    }

    /** Goes THE BEST WAY: behind and what was taken; the keeper, a place along (or NONE), keeps a tenth. */
    void follow(int load, int keeper) {
      int left = load;
      int day = first;
      for (int k = 0; k < most.size; k++) {
        int r = most.roads[k];
        int town = plan.to[r];
        left = plan.leftAfter(r, left, day);
        day += plan.length[r];
        taken[k] = town == freeGate ? 0 : plan.takenAt(town, rates[town], left, day - 1, plan.bySea[r]);
        left -= taken[k];
        if (k == keeper) left -= left / 10;
        behind[k] = left;
      }
    }

    void followEach(int load) {
      for (int k = 0; k < most.size; k++) {
        follow(load, k);
        System.arraycopy(behind, 0, cases, k * MAX_WAY, MAX_WAY);
      }
    }

    /** After followEach(): the LOAD behind GATE i, if the keeper kept a tenth. */
    int caseOf(int keeper, int i) {
      if (keeper < 0 || keeper >= MAX_WAY || i < 0 || i >= MAX_WAY) return NONE;
      return cases[keeper * MAX_WAY + i];
    }

    /** After follow(): what the GATE of a TOWN took. */
    int takenBy(int town) {
      for (int k = 0; k < most.size; k++) {
        if (plan.to[most.roads[k]] == town) return taken[k];
      }
      return 0;
    }
  }

  /** Numbers of one sort; below 0 of them: it is MISSING. */
  private static final class Tray {
    private final long[] numbers = new long[MAX_NUMBERS];
    private int sort = 0;
    int size = NONE;

    boolean isMissing() {
      return size < 0;
    }

    void layOut(int kind, int n) {
      sort = kind;
      size = Math.min(n, MAX_NUMBERS);
      Arrays.fill(numbers, 0L);
    }

    long numberAt(int i) {
      return i >= 0 && i < size ? numbers[i] : 0L;
    }

    void put(int i, long v) {
      if (i < 0 || i >= size) return;
      switch (sort) {
        case 0: numbers[i] = (byte) v; break;
        case 1: numbers[i] = (short) v; break;
        case 2: numbers[i] = (int) v; break;
        default: numbers[i] = v; break;
      }
    }
  }

  /** Reads a text, TOKEN by TOKEN, up to its first FAULT. */
  private static final class Reader {
    private static final int NO_TOKEN = 1;
    private static final int OUT_OF_PLACE = 2;
    private static final int OUT_OF_BOUNDS = 3;
    private static final int ONE_TOO_MANY = 4;

    private static final int END = 0;
    private static final int WORD = 1;
    private static final int NUMBER = 2;
    private static final int SIGN = 3;
    private static final int BAD = 4;

    private static final String SIGNS = ";:+-*()[]=<>";
    private static final int MAX_WITHIN = 6;

    private byte[] text = new byte[0];
    private int length = 0;
    private int place = 0;
    private int behind = 0;
    private int kind = END;
    private int number = 0;
    private final int[] steps = new int[MAX_TEXT];
    private int stepCount = 0;
    /** The words of the law that is being read, besides month and sea. */
    private boolean ofTown = false;
    private boolean ofLoad = false;

    int fault = 0;
    int faultPlace = NONE;
    Plan plan = new Plan();
    final State start = new State();

    /** Reads the first n bytes: true without a FAULT, then plan and start are what they tell. */
    boolean read(byte[] tape, int n) {
      text = tape;
      length = Math.max(0, Math.min(n, text.length));
      behind = 0;
      fault = 0;
      faultPlace = NONE;
      plan = new Plan();
      start.clear();
      advance();
      if (!readTowns()) return false;
      for (int i = 0; i < MAX_TEXT && kind != END; i++) {
        if (!readLine() || !expect(";")) return false;
        plan.lines++;
      }
      return true;
    }

    private boolean readTowns() {
      if (!expect("towns")) return false;
      int n = readNumber(2, MAX_TOWNS);
      if (n == NONE || !expect(";")) return false;
      plan.towns = n;
      plan.lines = 1;
      return true;
    }

    private boolean readLine() {
      if (isAt("road")) return readRoad();
      if (isAt("caravan")) return readCaravan();
      if (isAt("rate")) return readRate();
      if (isAt("day")) return readDay();
      if (isAt("dues") || isAt("eats") || isAt("opens")) return readLaw();
      return refuse(OUT_OF_PLACE);
    }

    private boolean readRoad() {
      if (plan.roads >= MAX_ROADS) return refuse(ONE_TOO_MANY);
      advance();
      int from = readNumber(0, plan.towns - 1);
      if (from == NONE || !expect("to")) return false;
      if (kind == NUMBER && number == from) return refuse(OUT_OF_BOUNDS);
      int to = readNumber(0, plan.towns - 1);
      if (to == NONE || !expect("days")) return false;
      int days = readNumber(1, 40);
      if (days == NONE) return false;
      int risk = 0;
      int sea = 0;
      for (int i = 0; i < MAX_TEXT; i++) {
        if (isAt("risk")) {
          advance();
          risk = readNumber(0, 10);
          if (risk == NONE) return false;
        } else if (isAt("sea")) {
          advance();
          sea = 1;
        } else {
          break;
        }
      }
      plan.addRoad(from, to, days, risk, sea);
      return true;
    }

    private boolean readCaravan() {
      if (start.caravans >= MAX_CARAVANS) return refuse(ONE_TOO_MANY);
      advance();
      if (!expect("at")) return false;
      int at = readNumber(0, plan.towns - 1);
      if (at == NONE || !expect("to")) return false;
      int to = readNumber(0, plan.towns - 1);
      if (to == NONE || !expect("load")) return false;
      int load = readNumber(1, MAX_LOAD);
      if (load == NONE) return false;
      start.addCaravan(at, to, load);
      return true;
    }

    private boolean readRate() {
      advance();
      int rate = readNumber(0, 9);
      if (rate == NONE || !expect("at")) return false;
      int town = readNumber(0, plan.towns - 1);
      if (town == NONE) return false;
      start.rates[town] = rate;
      return true;
    }

    private boolean readDay() {
      advance();
      int day = readNumber(0, 999);
      if (day == NONE) return false;
      start.day = day;
      return true;
    }

    private boolean readLaw() {
      boolean dues = isAt("dues");
      boolean opens = isAt("opens");
      ofTown = dues;
      ofLoad = !opens;
      stepCount = 0;
      advance();
      if (!expect(":")) return false;
      if (opens ? !readTruth(0) : !readSum(0)) return false;
      Law law = new Law(steps, stepCount);
      if (dues) plan.dues = law;
      else if (opens) plan.opens = law;
      else plan.eats = law;
      return true;
    }

    private boolean readTruth(int depth) {
      if (!readBoth(depth)) return false;
      for (int i = 0; i < MAX_TEXT && isAt("or"); i++) {
        advance();
        if (!readBoth(depth)) return false;
        addStep(Law.OR);
      }
      return true;
    }

    private boolean readBoth(int depth) {
      if (!readUnit(depth)) return false;
      for (int i = 0; i < MAX_TEXT && isAt("and"); i++) {
        advance();
        if (!readUnit(depth)) return false;
        addStep(Law.AND);
      }
      return true;
    }

    private boolean readUnit(int depth) {
      boolean not = isAt("not");
      if (not || isAt("[")) {
        if (depth >= MAX_WITHIN) return refuse(ONE_TOO_MANY);
        advance();
        if (!not) return readTruth(depth + 1) && expect("]");
        if (!readUnit(depth + 1)) return false;
        addStep(Law.NOT);
        return true;
      }
      if (!readSum(depth)) return false;
      int step = isAt("=") ? Law.SAME : isAt("<") ? Law.LESS : isAt(">") ? Law.MORE : 0;
      if (step == 0) return refuse(OUT_OF_PLACE);
      advance();
      if (!readSum(depth)) return false;
      addStep(step);
      return true;
    }

    private boolean readSum(int depth) {
      if (!readTerm(depth)) return false;
      for (int i = 0; i < MAX_TEXT && (isAt("+") || isAt("-")); i++) {
        int step = isAt("+") ? Law.PLUS : Law.MINUS;
        advance();
        if (!readTerm(depth)) return false;
        addStep(step);
      }
      return true;
    }

    private boolean readTerm(int depth) {
      if (!readAtom(depth)) return false;
      for (int i = 0; i < MAX_TEXT && isAt("*"); i++) {
        advance();
        if (!readAtom(depth)) return false;
        addStep(Law.TIMES);
      }
      return true;
    }

    private boolean readAtom(int depth) {
      if (isAt("(")) {
        if (depth >= MAX_WITHIN) return refuse(ONE_TOO_MANY);
        advance();
        return readSum(depth + 1) && expect(")");
      }
      int step = kind == NUMBER ? number : wordStep();
      if (step == Law.NO_STEP) return refuse(OUT_OF_PLACE);
      advance();
      addStep(step);
      return true;
    }

    private int wordStep() {
      if (isAt("month")) return Law.MONTH;
      if (isAt("sea")) return Law.SEA;
      if (isAt(ofTown ? "town" : "road")) return Law.PLACE;
      if (ofTown && isAt("rate")) return Law.RATE;
      if (ofLoad && isAt("load")) return Law.LOAD;
      return Law.NO_STEP;
    }

    private void addStep(int step) {
      if (stepCount >= steps.length) return;
      steps[stepCount] = step;
      stepCount++;
    }

    private boolean expect(String token) {
      if (!isAt(token)) return refuse(OUT_OF_PLACE);
      advance();
      return true;
    }

    private int readNumber(int least, int most) {
      if (kind != NUMBER) {
        refuse(OUT_OF_PLACE);
        return NONE;
      }
      int n = number;
      if (n < least || n > most) {
        refuse(OUT_OF_BOUNDS);
        return NONE;
      }
      advance();
      return n;
    }

    /** Tells the FAULT of the TOKEN at hand: the least kind, if it is none at all. Answers false. */
    private boolean refuse(int why) {
      fault = kind == BAD ? NO_TOKEN : why;
      faultPlace = place;
      return false;
    }

    private boolean isAt(String token) {
      if (kind != WORD && kind != SIGN) return false;
      if (behind - place != token.length() || behind > text.length) return false;
      for (int i = 0; i < token.length(); i++) {
        if (text[place + i] != token.charAt(i)) return false;
      }
      return true;
    }

    /** Goes to the next TOKEN; at the end of the text its place is the text's length. */
    private void advance() {
      int p = behind;
      while (p < length && (text[p] == ' ' || text[p] == '\n')) p++;
      place = p;
      if (p >= length) {
        kind = END;
      } else if (text[p] >= 'a' && text[p] <= 'z') {
        while (p < length && text[p] >= 'a' && text[p] <= 'z') p++;
        kind = WORD;
      } else if (text[p] >= '0' && text[p] <= '9') {
        number = 0;
        while (p < length && text[p] >= '0' && text[p] <= '9') {
          if (p - place < 3) number = number * 10 + text[p] - '0';
          p++;
        }
        kind = p - place > 3 ? BAD : NUMBER;
      } else {
        kind = text[p] > 0 && SIGNS.indexOf((char) text[p]) >= 0 ? SIGN : BAD;
        p++;
      }
      behind = p;
    }
  }
}
