import java.lang.reflect.Method;
import java.nio.charset.StandardCharsets;
import java.util.ArrayList;
import java.util.Arrays;
import java.util.HashMap;
import java.util.List;
import java.util.Map;
import java.util.Random;

/** Runs of calls by draws, each answered by OneGate and by PlainModel alike. */
public final class ModelTest {
  /** A call, its arguments' kinds (see argument()), and how often it comes. */
  private static final String[] CALLS = {
    "fault s 1", "town ts 4", "road rs 3", "caravan cs 6", "dues tlb 4", "eats rl 4", "open rn 4", "seed i 2",
    "start ttl 5", "send cr 25", "rate tf 5", "days fb 12", "days nb 1", "undo s 5", "judge ys 10", "perform y 6",
    "year in 1", "year if 5", "ways tt 5", "reach tn 4", "best ttlw 10", "takes ttlt 6",
    "soonest ttw 6", "safest ttw 6", "needed tt 5", "leave ttl 1", "income t 3", "arrives  3", "bestRate t 2",
    "tempted  1", "grasping  2", "lacks yttl 3", "weigh yttl 3", "worst ttl 6", "numbers ysn 1", "numbers ysf 4",
    "write ynv 2", "write yfv 8", "lists yttl 6", "image s 1", "restore s 1", "count w 10",
  };

  private final Random random;
  private final OneGate gate = new OneGate();
  private final PlainModel model = new PlainModel();
  private final List<String> log = new ArrayList<>();
  private static final Map<String, Method[]> METHODS = new HashMap<>();

  private ModelTest(long seed) {
    random = new Random(seed);
  }

  public static void main(String[] args) throws Exception {
    int runs = args.length > 0 ? Integer.parseInt(args[0]) : 250;
    long from = args.length > 1 ? Long.parseLong(args[1]) : 1;
    for (Method m : OneGate.class.getDeclaredMethods()) {
      if ((m.getModifiers() & java.lang.reflect.Modifier.PUBLIC) == 0) continue;
      METHODS.put(m.getName(), new Method[] {m, PlainModel.class.getDeclaredMethod(m.getName(), m.getParameterTypes())});
    }
    List<String> weighted = new ArrayList<>();
    for (String call : CALLS) {
      String[] parts = call.split(" ");
      for (int i = 0; i < Integer.parseInt(parts[2]); i++) weighted.add(call);
    }
    for (long seed = from; seed < from + runs; seed++) new ModelTest(seed).run(weighted);
    for (long seed = from; seed < from + runs * 4L; seed++) new ModelTest(seed).faults();
    Due.end();
  }

  private void run(List<String> weighted) throws Exception {
    tell(new Texts(random).text());
    for (int i = 0; i < 300; i++) {
      if (random.nextInt(100) == 0) tell(new Texts(random).text());
      if (random.nextInt(20) == 0) deeds();
      if (random.nextInt(15) == 0) seen();
      String[] parts = weighted.get(random.nextInt(weighted.size())).split(" ");
      Object[] arguments = new Object[parts[1].length()];
      for (int k = 0; k < arguments.length; k++) arguments[k] = argument(parts[1].charAt(k));
      call(parts[0], arguments);
    }
    for (int what = -1; what < 13; what++) call("count", what);
    for (int c = 0; c < 6; c++) for (int what = 0; what < 5; what++) call("caravan", c, what);
    for (int t = 0; t < 6; t++) for (int what = 0; what < 4; what++) call("town", t, what);
  }

  /** A text with something put in, left out or changed somewhere. */
  private void faults() throws Exception {
    String text = new Texts(random).text();
    for (int i = random.nextInt(3); i >= 0; i--) text = new Texts(random).spoilt(text);
    tell(text.length() > 900 ? text.substring(0, 900) : text);
    for (int what = 0; what < 12; what++) call("count", what);
  }

  private void tell(String text) throws Exception {
    byte[] bytes = text.getBytes(StandardCharsets.ISO_8859_1);
    log.add("text " + text);
    for (int i = 0; i < bytes.length; i += 20) {
      call("feed", Due.word(bytes, i), Due.word(bytes, i + 4), Due.word(bytes, i + 8), Due.word(bytes, i + 12),
          Due.word(bytes, i + 16));
    }
    call("roads", random.nextInt(12) == 0 ? random.nextInt(bytes.length + 1) : bytes.length);
    call("fault", 0);
    call("fault", 1);
  }

  /** A tray of deeds, many of which can be. */
  private void deeds() throws Exception {
    int tray = random.nextInt(4);
    int n = random.nextInt(12);
    call("numbers", tray, 1 + random.nextInt(3), n);
    for (int i = 0; i < n; i++) call("write", tray, i, argument('v'));
  }

  /** A tray of what was weighed, some of it, some a little off. */
  private void seen() throws Exception {
    int from = random.nextInt(6), to = random.nextInt(6), load = (Integer) argument('l');
    int n = 0;
    while (n < 5 && model.best(from, to, load, 10 + n) >= 0) n++;
    call("numbers", 0, 1 + random.nextInt(3), n);
    call("lists", 0, from, to, load);
    List<Integer> way = n == 0 ? null : model.bestWay(from, to, model.world.day, load, model.world.rates, -1);
    int keeper = random.nextInt(6);
    for (int i = 0; i < n; i++) {
      int behind = model.go(way, model.world.day, load, model.world.rates, -1, keeper)[0][i];
      call("write", 0, i, (long) (random.nextInt(3) > 0 ? -1 : random.nextInt(8) == 0 ? behind - 1 : behind));
    }
    call("lacks", 0, from, to, load);
    call("weigh", 0, from, to, load);
    call("worst", from, to, load);
  }

  /** Bounds that the document names, those beside them, and the least and the greatest int. */
  private static final int[] EDGES = {Integer.MIN_VALUE, -2, -1, 0, 1, 2, 3, 4, 5, 6, 7, 9, 10, 11, 14, 15, 39, 40, 41, 99,
      100, 101, 199, 200, 201, 899, 900, 901, 998, 999, 1000, Integer.MAX_VALUE};

  private Object argument(char kind) {
    boolean odd = random.nextInt(25) == 0;
    if (odd && random.nextBoolean() && "trclnfswy".indexOf(kind) >= 0) return EDGES[random.nextInt(EDGES.length)];
    switch (kind) {
      case 't': return odd ? random.nextInt(20) - 6 : random.nextInt(Math.max(1, model.map.towns));
      case 'r': return odd ? random.nextInt(20) - 6 : random.nextInt(10);
      case 'c': return odd ? random.nextInt(20) - 6 : random.nextInt(6);
      case 'l': return odd ? random.nextInt(1200) - 100 : 1 + random.nextInt(random.nextBoolean() ? 60 : 999);
      case 'n': return odd ? random.nextInt(1200) - 100 : random.nextInt(100);
      case 'f': return odd ? random.nextInt(60) - 9 : random.nextInt(10);
      case 's': return odd ? random.nextInt(20) - 6 : random.nextInt(4);
      case 'w': return odd ? random.nextInt(30) - 6 : random.nextBoolean() ? random.nextInt(2) : random.nextInt(6) + 10;
      case 'y': return odd ? random.nextInt(10) - 3 : random.nextInt(4);
      case 'b': return random.nextBoolean();
      case 'i': return random.nextInt();
      default: return deed();
    }
  }

  private Object deed() {
    switch (random.nextInt(12)) {
      case 0: return random.nextLong();
      case 1: return (long) random.nextInt(320) - 30;
      case 2: case 3: return -1L;
      case 4: case 5: return 200L;
      case 6: return 100L + random.nextInt(10 * model.map.towns);
      default: return usefulSend();
    }
  }

  private long usefulSend() {
    for (int i = 0; i < 40; i++) {
      int c = random.nextInt(6), r = random.nextInt(10);
      if (model.whySend(model.world, c, r) == 0) return c * 10L + r;
    }
    return random.nextInt(60);
  }

  private void call(String name, Object... arguments) throws Exception {
    Method[] both = METHODS.get(name);
    String told = name + Arrays.toString(arguments);
    log.add(told);
    long got = ((Number) both[0].invoke(gate, arguments)).longValue();
    long want = ((Number) both[1].invoke(model, arguments)).longValue();
    Due.due(told, got, want);
    if (got != want) {
      log.forEach(System.out::println);
      Due.end();
    }
  }
}
