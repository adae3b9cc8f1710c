import java.lang.reflect.InvocationTargetException;
import java.lang.reflect.Method;
import java.lang.reflect.Modifier;
import java.util.ArrayList;
import java.util.Arrays;
import java.util.Comparator;
import java.util.List;
import java.util.Map;
import java.util.Random;

/** Runs of 512 drawn calls, each answered by WhiffCoins as by PlainTown. */
public final class RandomRunsTest {
  private static final int RUNS = 1500;
  private static final int CALLS = 512;
  private static final int[] ODD = {Integer.MIN_VALUE, Integer.MAX_VALUE, -1, -2, 1000, 65536, 41,
      101, 10, 9, 8, 7, 6, 4, 3, 2, 1, 0};
  /** What an argument mostly is: from, to; by the method's name. */
  private static final Map<String, int[]> RANGES = Map.ofEntries(
      Map.entry("trader", new int[] {0, 69, 1, 7}), Map.entry("ofTrader", new int[] {0, 5, 0, 5}),
      Map.entry("become", new int[] {0, 5, 0, 69}), Map.entry("as", new int[] {0, 5, 0, 6}),
      Map.entry("coin", new int[] {1, 9, 0, 5}), Map.entry("ofCoin", new int[] {0, 7, 0, 3}),
      Map.entry("fade", new int[] {1, 9}), Map.entry("law", new int[] {0, 1, -9, 99, -9, 9, -9, 9}),
      Map.entry("worth", new int[] {0, 7, 0, 5}), Map.entry("sale", new int[] {0, 7, 0, 5}),
      Map.entry("days", new int[] {1, 5}), Map.entry("loose", new int[] {1, 40}),
      Map.entry("worst", new int[] {0, 5, 0, 5}), Map.entry("pays", new int[] {0, 5, 0, 5, 1, 150}),
      Map.entry("hands", new int[] {0, 7, -1, 2}), Map.entry("round", new int[] {0, 7}),
      Map.entry("takers", new int[] {0, 7, 0, 9}), Map.entry("tolls", new int[] {0, 5, 0, 20}),
      Map.entry("seed", new int[] {-99999, 99999}), Map.entry("text", new int[] {0, 1}),
      Map.entry("voice", new int[] {0, 5, 0, 3, -99, 99}), Map.entry("trace", new int[] {0, 10}),
      Map.entry("sheet", new int[] {0, 3, 0, 32, 0, 12}),
      Map.entry("put", new int[] {0, 3, 0, 9, -5, 110}),
      Map.entry("move", new int[] {0, 3, 0, 5, 0, 3, 0, 5, 0, 5}),
      Map.entry("prices", new int[] {0, 3}), Map.entry("judge", new int[] {0, 3}),
      Map.entry("tell", new int[] {0, 24}), Map.entry("count", new int[] {0, 10}),
      Map.entry("told", new int[] {1, 5}));
  private static final String SIGNS = "vldkt0123456789+-*/%<=>|&!()";

  private final Random random;
  private final List<Method> methods = new ArrayList<>();

  private RandomRunsTest(long seed) {
    random = new Random(seed);
    for (Method m : WhiffCoins.class.getDeclaredMethods()) {
      if (Modifier.isPublic(m.getModifiers())) {
        methods.add(m);
      }
    }
    methods.sort(Comparator.comparing(Method::getName));
  }

  public static void main(String[] args) throws ReflectiveOperationException {
    long first = args.length > 0 ? Long.parseLong(args[0]) : 1;
    for (long seed = first; seed < first + RUNS; seed++) {
      new RandomRunsTest(seed).run(seed);
    }
    Due.end();
  }

  private void run(long seed) throws ReflectiveOperationException {
    WhiffCoins town = new WhiffCoins();
    PlainTown plain = new PlainTown();
    int odd = 2 + random.nextInt(60);
    for (int call = 0; call < CALLS; call++) {
      Method m = call < 12 && random.nextInt(4) > 0 ? begin(call) : any();
      Object[] args = arguments(m, odd);
      int got = (Integer) m.invoke(town, args);
      int due = answer(plain, m, args);
      String what = "run " + seed + ", call " + call + ": " + m.getName() + Arrays.toString(args);
      Due.is(what, got, due);
      if (got != due) {
        return;
      }
    }
  }

  private Method any() {
    return methods.get(random.nextInt(methods.size()));
  }

  /** Most runs begin with traders and coins. */
  private Method begin(int call) {
    String name = call < 5 ? "trader" : "coin";
    return methods.stream().filter(m -> m.getName().equals(name)).findFirst().orElseThrow();
  }

  private static int answer(PlainTown plain, Method m, Object[] args)
      throws ReflectiveOperationException {
    Method same = PlainTown.class.getMethod(m.getName(), m.getParameterTypes());
    try {
      return (Integer) same.invoke(plain, args);
    } catch (InvocationTargetException e) {
      if (e.getCause() instanceof PlainTown.Err err) {
        plain.failed(err.k);
        return -1000000000 - err.k;
      }
      throw e;
    }
  }

  private Object[] arguments(Method m, int odd) {
    Object[] args = new Object[m.getParameterCount()];
    int[] range = RANGES.get(m.getName());
    for (int i = 0; i < args.length; i++) {
      args[i] = range == null ? 0 : drawn(range[2 * i], range[2 * i + 1]);
    }
    switch (m.getName()) {
      case "feed" -> {
        String signs = signs();
        long word = random.nextInt(40) == 0 ? random.nextLong() : 0;
        for (int i = signs.length() - 1; i >= 0; i--) {
          word = word << 8 | signs.charAt(i);
        }
        args[0] = word;
        args[1] = Math.max(1, signs.length());
      }
      case "change" -> {
        args[0] = drawn(0, 5);
        args[1] = drawn(0, 2);
        args[2] = new int[] {drawn(1, 7), drawn(0, 45), 2 * drawn(0, 127)}[(Integer) args[1]];
      }
      case "rub" -> {
        args[0] = drawn(0, 7);
        args[1] = row();
      }
      case "launder" -> {
        args[0] = drawn(0, 7);
        args[1] = row();
        args[2] = drawn(-1, 2);
      }
      case "sheet" -> args[1] = new int[] {0, 8, 8, 16, 32}[drawn(0, 4)];
      default -> { }
    }
    if (args.length > 0 && random.nextInt(odd) == 0) {
      int i = random.nextInt(args.length);
      if (args[i] instanceof Integer) {
        args[i] = ODD[random.nextInt(ODD.length)];
      }
    }
    return args;
  }

  private int drawn(int from, int to) {
    return from + random.nextInt(to - from + 1);
  }

  private int row() {
    int row = 0;
    for (int i = random.nextInt(4); i > 0; i--) {
      row = row * 10 + drawn(1, 7);
    }
    return row;
  }

  /** Up to 8 signs, in which parts and operators mostly take turns. */
  private String signs() {
    if (random.nextInt(6) == 0) {
      StringBuilder any = new StringBuilder();
      for (int i = drawn(1, 8); i > 0; i--) {
        any.append(SIGNS.charAt(random.nextInt(SIGNS.length())));
      }
      return any.toString();
    }
    String[] whole = {"v", "l", "k", "v+l-d", "v*9-d*3", "(v+t)*2", "!k+t%7", "v|l&d", "v*3+l*4",
        "v<l+3", "(v=3)*9", "-", "+", "*", "v*12-d", "k*t/3", "l>d", "(", "!", ")", "9", "v*5/3"};
    return whole[random.nextInt(whole.length)];
  }
}
