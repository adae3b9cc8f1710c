import java.util.ArrayList;
import java.util.List;
import java.util.Map;

/**
 * The document once more, in the plainest form and without a thought of room: what WhiffCoins
 * answers is held against it. An ERROR is thrown.
 */
final class PlainTown {
  static final class Err extends RuntimeException {
    private static final long serialVersionUID = 1;
    final int k;

    Err(int k) {
      super(null, null, false, false);
      this.k = k;
    }
  }

  private static final class Trader {
    int kind;
    int m;
    int ware;
    int price = 10;
    int likes;

    Trader copy() {
      Trader t = new Trader();
      t.kind = kind;
      t.m = m;
      t.ware = ware;
      t.price = price;
      t.likes = likes;
      return t;
    }
  }

  private static final class Coin {
    int value;
    int holder;
    List<Integer> row = new ArrayList<>();

    Coin copy() {
      Coin c = new Coin();
      c.value = value;
      c.holder = holder;
      c.row = new ArrayList<>(row);
      return c;
    }
  }

  /** What an image keeps. */
  private static final class State {
    List<Trader> traders = new ArrayList<>();
    List<Coin> coins = new ArrayList<>();
    List<Integer> tape = new ArrayList<>();
    List<Integer> waiting = new ArrayList<>();
    String[] texts = new String[2];
    int day;
    int sales;
    int fade = 3;
    int z = 1;

    State copy() {
      State s = new State();
      traders.forEach(t -> s.traders.add(t.copy()));
      coins.forEach(c -> s.coins.add(c.copy()));
      s.tape.addAll(tape);
      s.waiting.addAll(waiting);
      s.texts = texts.clone();
      s.day = day;
      s.sales = sales;
      s.fade = fade;
      s.z = z;
      return s;
    }
  }

  private static final String[] NAMES = {"vld", "vkt"};
  private static final String[] LEVELS = {"|", "&", "<=>", "+-", "*/%"};
  private static final List<List<Integer>> LINES = List.of(List.of(0), List.of(1, 0),
      List.of(2, 0), List.of(3, 0), List.of(4, 1, 0), List.of(5, 2, 0), List.of(6, 3, 0));
  private static final Map<String, Integer> BODIES = Map.ofEntries(Map.entry("0 0", 10),
      Map.entry("0 1", 11), Map.entry("0 2", 12), Map.entry("0 3", 13), Map.entry("1 0", 20),
      Map.entry("2 2", 30), Map.entry("3 1", 40), Map.entry("4 3", 50), Map.entry("5 2", 60),
      Map.entry("5 3", 61), Map.entry("6 1", 70));

  private State now = new State();
  private State kept = null;
  private int images = 0;
  private final int[] told = new int[6];
  private final int[] bits = new int[4];
  private final int[][] sheets = new int[4][];
  private List<Integer> trace = new ArrayList<>();

  void failed(int k) {
    told[k]++;
  }

  private static void ask(boolean isSo, int k) {
    if (!isSo) {
      throw new Err(k);
    }
  }

  private static boolean in(int v, int low, int high) {
    return low <= v && v <= high;
  }

  private Trader traderAt(int i) {
    ask(in(i, 0, now.traders.size() - 1), 1);
    return now.traders.get(i);
  }

  private Coin coinAt(int i) {
    ask(in(i, 0, now.coins.size() - 1), 1);
    return now.coins.get(i);
  }

  // ---- traders, coins

  public int trader(int km, int ware) {
    ask(in(km, 0, 69) && in(ware, 1, 7), 1);
    ask(now.traders.size() < 6, 4);
    Trader t = new Trader();
    t.kind = km / 10;
    t.m = km % 10;
    t.ware = ware;
    t.likes = 1 << ware;
    now.traders.add(t);
    return now.traders.size() - 1;
  }

  public int ofTrader(int trader, int what) {
    Trader t = traderAt(trader);
    ask(in(what, 0, 5), 1);
    int held = 0;
    for (int i = 0; i < now.coins.size(); i++) {
      held += now.coins.get(i).holder == trader ? 1 << i : 0;
    }
    return new int[] {t.kind, t.m, t.ware, t.price, t.likes, held}[what];
  }

  public int change(int trader, int what, int v) {
    Trader t = traderAt(trader);
    ask(in(what, 0, 2), 1);
    ask(what != 0 || in(v, 1, 7), 1);
    ask(what != 1 || in(v, 0, 99), 1);
    ask(what != 2 || in(v, 0, 254) && v % 2 == 0, 1);
    int before = new int[] {t.ware, t.price, t.likes}[what];
    t.ware = what == 0 ? v : t.ware;
    t.price = what == 1 ? v : t.price;
    t.likes = what == 2 ? v : t.likes;
    return before;
  }

  public int become(int trader, int km) {
    Trader t = traderAt(trader);
    ask(in(km, 0, 69), 1);
    int before = t.kind;
    t.kind = km / 10;
    t.m = km % 10;
    return before;
  }

  public int as(int trader, int kind) {
    Trader t = traderAt(trader);
    ask(in(kind, 0, 6), 1);
    ask(LINES.get(t.kind).contains(kind), 5);
    return t.m;
  }

  public int coin(int value, int holder) {
    ask(in(value, 1, 9), 1);
    traderAt(holder);
    ask(now.coins.size() < 8, 4);
    Coin c = new Coin();
    c.value = value;
    c.holder = holder;
    now.coins.add(c);
    return now.coins.size() - 1;
  }

  private static int digits(List<Integer> row) {
    StringBuilder s = new StringBuilder("0");
    row.forEach(s::append);
    return Integer.parseInt(s.toString());
  }

  private static List<Integer> rowOf(int v) {
    ask(v == 0 || Integer.toString(v).matches("[1-7]{1,3}"), 1);
    List<Integer> row = new ArrayList<>();
    for (char c : (v == 0 ? "" : Integer.toString(v)).toCharArray()) {
      row.add(c - '0');
    }
    return row;
  }

  public int ofCoin(int coin, int what) {
    Coin c = coinAt(coin);
    ask(in(what, 0, 3), 1);
    return new int[] {c.value, c.holder, c.row.size(), digits(c.row)}[what];
  }

  public int rub(int coin, int v) {
    Coin c = coinAt(coin);
    c.row = rowOf(v);
    return c.row.size();
  }

  public int fade(int v) {
    ask(in(v, 1, 9), 1);
    int before = now.fade;
    now.fade = v;
    return before;
  }

  // ---- texts

  public int feed(long word, int n) {
    ask(in(n, 1, 8), 1);
    ask(now.tape.size() + n <= 50, 4);
    for (int i = 0; i < n; i++) {
      now.tape.add((int) (word >> 8 * i & 255));
    }
    return now.tape.size();
  }

  public int text(int use) {
    ask(in(use, 0, 1), 1);
    StringBuilder s = new StringBuilder();
    now.tape.forEach(b -> s.append((char) (int) b));
    now.tape.clear();
    int fault = fault(s.toString(), NAMES[use]);
    if (fault >= 0) {
      return -10 - fault;
    }
    now.texts[use] = s.toString();
    return 1;
  }

  /** By a machine of states, a byte at a time; -1: it is a TEXT. */
  private static int fault(String s, String names) {
    List<int[]> frames = new ArrayList<>();   // of each (: how many ! ahead of it, compared ahead
    int nots = 0;
    int compared = 0;
    int digits = 0;                           // of the number that may still go on
    boolean isBehindPart = false;
    for (int i = 0; i < s.length(); i++) {
      char c = s.charAt(i);
      int open = nots + frames.size();
      for (int[] f : frames) {
        open += f[0];
      }
      if (isBehindPart && digits > 0 && digits < 4 && in(c, '0', '9')) {
        digits++;
        continue;
      }
      if (!isBehindPart) {
        if (in(c, '0', '9') || names.indexOf(c) >= 0) {
          isBehindPart = true;
          digits = in(c, '0', '9') ? 1 : 0;
          nots = 0;
        } else if (c == '!' && open < 5) {
          nots++;
        } else if (c == '(' && open < 5) {
          frames.add(new int[] {nots, compared});
          nots = 0;
          compared = 0;
        } else {
          return i;
        }
        continue;
      }
      digits = 0;
      if (c == ')' && !frames.isEmpty()) {
        compared = frames.remove(frames.size() - 1)[1];
        continue;
      }
      boolean isComparison = LEVELS[2].indexOf(c) >= 0;
      if ("|&+-*/%".indexOf(c) < 0 && (!isComparison || compared == 1)) {
        return i;
      }
      compared = isComparison ? 1 : c == '|' || c == '&' ? 0 : compared;
      isBehindPart = false;
    }
    return isBehindPart && frames.isEmpty() ? -1 : s.length();
  }

  /** By the last loosest operator that stands in no brackets. */
  private static int eval(String s, String names, int[] args) {
    for (String level : LEVELS) {
      int depth = 0;
      for (int i = s.length() - 1; i >= 0; i--) {
        char c = s.charAt(i);
        depth += c == ')' ? 1 : c == '(' ? -1 : 0;
        if (depth == 0 && level.indexOf(c) >= 0) {
          int left = eval(s.substring(0, i), names, args);
          return join(c, left, eval(s.substring(i + 1), names, args));
        }
      }
    }
    if (s.charAt(0) == '!') {
      return eval(s.substring(1), names, args) == 0 ? 1 : 0;
    }
    if (s.charAt(0) == '(') {
      return eval(s.substring(1, s.length() - 1), names, args);
    }
    return names.indexOf(s.charAt(0)) >= 0 ? args[names.indexOf(s.charAt(0))] : Integer.parseInt(s);
  }

  private static int join(char c, int a, int b) {
    boolean is = c == '|' && (a != 0 || b != 0) || c == '&' && a != 0 && b != 0
        || c == '<' && a < b || c == '=' && a == b || c == '>' && a > b;
    switch (c) {
      case '+': return a + b;
      case '-': return a - b;
      case '*': return a * b;
      case '/': return b == 0 ? 0 : (int) ((long) a / b);
      case '%': return b == 0 ? 0 : (int) ((long) a % b);
      default: return is ? 1 : 0;
    }
  }

  public int law(int use, int a, int b, int c) {
    return law(now, use, a, b, c);
  }

  private static int law(State s, int use, int... args) {
    ask(in(use, 0, 1), 1);
    String text = s.texts[use] != null ? s.texts[use] : use == 0 ? "v*10+l*2-d" : "k";
    int given = eval(text, NAMES[use], args);
    return Math.min(99, Math.max(use == 0 ? -99 : 0, given));
  }

  // ---- sales, days

  private static int worth(State s, int coin, int trader) {
    Trader t = s.traders.get(trader);
    Coin c = s.coins.get(coin);
    int l = 0;
    int d = 0;
    for (int i = 0; i < c.row.size() && (t.kind != 6 || i == 0); i++) {
      boolean isLiked = (t.likes & 1 << c.row.get(i)) != 0;
      l += isLiked ? 3 - i : 0;
      d += isLiked ? 0 : 3 - i;
    }
    switch (t.kind) {
      case 0: return law(s, 0, c.value, l, d);
      case 1: return law(s, 0, c.value, l, 0);
      case 2: return law(s, 0, c.value, l, d) + c.row.size();
      case 4: return law(s, 0, c.value, l, 0) + t.m;
      case 5: return 10 * c.value;
      default: return law(s, 0, c.value, l + l, d + d);
    }
  }

  private static boolean takes(State s, int coin, int trader) {
    return s.coins.get(coin).holder != trader
        && worth(s, coin, trader) >= s.traders.get(trader).price;
  }

  private static boolean sell(State s, int coin, int trader) {
    if (!takes(s, coin, trader)) {
      return false;
    }
    Coin c = s.coins.get(coin);
    Trader t = s.traders.get(trader);
    c.holder = trader;
    if (t.kind == 2 || t.kind == 5) {
      c.row.clear();
    }
    if (t.kind != 5) {
      c.row.add(0, t.ware);
    }
    c.row = new ArrayList<>(c.row.subList(0, Math.min(3, c.row.size())));
    s.sales = Math.min(9999, s.sales + 1);
    return true;
  }

  private static void day(State s) {
    for (int t = 0; t < s.traders.size(); t++) {
      final int trader = t;
      List<Coin> held = s.coins.stream().filter(c -> c.holder == trader).toList();
      for (Coin c : held) {
        if (c != held.get(0) && c.row.size() < 3 && !held.get(0).row.isEmpty()) {
          c.row.add(held.get(0).row.get(0));
        }
      }
    }
    s.day++;
    for (Coin c : s.coins) {
      if (s.day % s.fade == 0 && !c.row.isEmpty()) {
        c.row.remove(c.row.size() - 1);
      }
    }
  }

  private static int smells(State s) {
    return s.coins.stream().mapToInt(c -> c.row.size()).sum();
  }

  public int worth(int coin, int trader) {
    coinAt(coin);
    traderAt(trader);
    return worth(now, coin, trader);
  }

  public int sale(int coin, int trader) {
    Coin c = coinAt(coin);
    traderAt(trader);
    ask(c.holder != trader, 3);
    return sell(now, coin, trader) ? 1 : 0;
  }

  public int days(int n) {
    ask(in(n, 1, 100), 1);
    ask(now.day + n <= 9999, 3);
    for (int i = 0; i < n; i++) {
      day(now);
    }
    return smells(now);
  }

  private int draw() {
    now.z = (int) (now.z * 1103515245L + 12345L);
    return now.z >>> 8;
  }

  public int loose(int n) {
    ask(in(n, 1, 40), 1);
    ask(now.day + n <= 9999, 3);
    for (int i = 0; i < n; i++) {
      if (!now.coins.isEmpty()) {
        int coin = draw() % now.coins.size();
        int trader = draw() % now.traders.size();
        sell(now, coin, trader);
      }
      day(now);
    }
    return smells(now);
  }

  // ---- what would be

  private void askTwo(int trader, int other) {
    traderAt(trader);
    traderAt(other);
    ask(trader != other, 1);
  }

  public int worst(int trader, int other) {
    askTwo(trader, other);
    int best = -1;
    for (int c = now.coins.size() - 1; c >= 0; c--) {
      if (now.coins.get(c).holder == trader && takes(now, c, other)
          && (best < 0 || worth(now, c, trader) <= worth(now, best, trader))) {
        best = c;
      }
    }
    ask(best >= 0, 2);
    return best;
  }

  public int pays(int trader, int other, int sum) {
    askTwo(trader, other);
    ask(in(sum, 1, 999), 1);
    for (int size = 1; size <= 8; size++) {
      for (int set = 0; set < 256; set++) {
        if (Integer.bitCount(set) == size && paid(set, trader, other) >= sum) {
          return set;
        }
      }
    }
    throw new Err(2);
  }

  private int paid(int set, int trader, int other) {
    int sum = 0;
    for (int c = 0; c < 8; c++) {
      if ((set & 1 << c) != 0) {
        if (c >= now.coins.size() || now.coins.get(c).holder != trader
            || worth(now, c, other) <= 0) {
          return -1;
        }
        sum += worth(now, c, other);
      }
    }
    return sum;
  }

  public int launder(int coin, int row, int what) {
    coinAt(coin);
    List<Integer> wanted = rowOf(row);
    ask(in(what, -1, 2), 1);
    for (int size = 0; size <= 3; size++) {
      List<Integer> way = way(now, coin, wanted, size);
      if (way != null) {
        return what < 0 ? size : what < size ? way.get(what) : -1;
      }
    }
    throw new Err(2);
  }

  private static List<Integer> way(State s, int coin, List<Integer> wanted, int size) {
    if (size == 0) {
      return s.coins.get(coin).row.equals(wanted) ? new ArrayList<>() : null;
    }
    for (int t = 0; t < s.traders.size(); t++) {
      State then = s.copy();
      if (sell(then, coin, t)) {
        List<Integer> way = way(then, coin, wanted, size - 1);
        if (way != null) {
          way.add(0, t);
          return way;
        }
      }
    }
    return null;
  }

  public int hands(int coin, int what) {
    Coin c = coinAt(coin);
    ask(in(what, -1, 2), 1);
    List<List<Integer>> rows = new ArrayList<>();
    rows.add(new ArrayList<>());
    for (int smell : c.row) {
      List<List<Integer>> longer = new ArrayList<>();
      for (List<Integer> row : rows) {
        for (int t = 0; t < now.traders.size(); t++) {
          boolean isSame = !row.isEmpty() && row.get(row.size() - 1) == t;
          if (!isSame && now.traders.get(t).ware == smell) {
            List<Integer> more = new ArrayList<>(row);
            more.add(t);
            longer.add(more);
          }
        }
      }
      rows = longer;
    }
    if (what < 0) {
      return rows.size();
    }
    ask(!rows.isEmpty() && what < rows.get(0).size(), 2);
    return rows.get(0).get(what);
  }

  public int round(int coin) {
    coinAt(coin);
    State s = now.copy();
    int sales = 0;
    boolean isSold = true;
    while (isSold && sales < 100) {
      isSold = false;
      int holder = s.coins.get(coin).holder;
      for (int step = 1; step < s.traders.size() && !isSold; step++) {
        isSold = sell(s, coin, (holder + step) % s.traders.size());
      }
      sales += isSold ? 1 : 0;
    }
    return sales;
  }

  public int home() {
    int[] strength = new int[8];
    for (Coin c : now.coins) {
      for (int i = 0; i < c.row.size(); i++) {
        strength[c.row.get(i)] += 3 - i;
      }
    }
    int best = 1;
    for (int smell = 2; smell <= 7; smell++) {
      best = strength[smell] > strength[best] ? smell : best;
    }
    ask(strength[best] > 0, 2);
    return best;
  }

  public int outcasts() {
    int set = 0;
    for (int c = 0; c < now.coins.size(); c++) {
      set += takersOf(now, c) == 0 ? 1 << c : 0;
    }
    return set;
  }

  private static int takersOf(State s, int coin) {
    int set = 0;
    for (int t = 0; t < s.traders.size(); t++) {
      set += takes(s, coin, t) ? 1 << t : 0;
    }
    return set;
  }

  public int takers(int coin, int n) {
    coinAt(coin);
    ask(in(n, 0, 100), 1);
    State s = now.copy();
    for (int i = 0; i < n; i++) {
      day(s);
    }
    return takersOf(s, coin);
  }

  public int tolls(int trader, int n) {
    traderAt(trader);
    ask(in(n, 0, 100), 1);
    State s = now.copy();
    int sum = 0;
    for (int i = 0; i < n; i++) {
      for (Coin c : s.coins) {
        sum += c.holder == trader ? law(s, 1, c.value, c.row.size(), s.day) : 0;
      }
      day(s);
    }
    return sum;
  }

  // ---- draws, voices, sheets, images, what is told

  public int seed(int v) {
    int before = now.z;
    now.z = v;
    return before;
  }

  public int voice(int trader, int act, int x) {
    Trader t = traderAt(trader);
    ask(in(act, 0, 3), 1);
    trace = new ArrayList<>();
    return say(t, trader, act, x, LINES.get(t.kind));
  }

  /** line: the KINDS in which a BODY is looked for. */
  private int say(Trader t, int n, int act, int x, List<Integer> line) {
    List<Integer> all = LINES.get(t.kind);
    Integer body = BODIES.get(line.get(0) + " " + act);
    List<Integer> above = line.subList(1, line.size());
    if (body == null) {
      return say(t, n, act, x, above);
    }
    trace.add(body);
    switch (body) {
      case 10: return x + n;
      case 11: return say(t, n, 0, x, all) * 2;
      case 12: return x - t.m;
      case 13: return say(t, n, 1, x, all) ^ say(t, n, 2, x, all);
      case 20: return say(t, n, 0, x, above) * 3;
      case 30: return -say(t, n, 2, x, above);
      case 40: return say(t, n, 1, x, above) - say(t, n, 2, 1, all);
      case 50: return say(t, n, 3, x, above) - say(t, n, 0, 2, all);
      case 60: return say(t, n, 2, x, above) ^ n;
      case 61: return say(t, n, 1, x, all) - say(t, n, 3, x, above);
      default: return say(t, n, 1, x + 1, above);
    }
  }

  public int trace(int i) {
    ask(in(i, 0, Math.min(40, trace.size()) - 1), 2);
    return trace.get(i);
  }

  private int[] sheetAt(int i) {
    ask(in(i, 0, 3), 1);
    ask(sheets[i] != null, 2);
    return sheets[i];
  }

  public int sheet(int sheet, int width, int n) {
    ask(in(sheet, 0, 3) && List.of(0, 8, 16, 32).contains(width), 1);
    if (width == 0) {
      sheets[sheet] = null;
      return 1;
    }
    ask(n >= 0, 3);
    ask(n <= 40, 1);
    bits[sheet] = width;
    sheets[sheet] = new int[n];
    return 1;
  }

  public int put(int sheet, int i, int v) {
    int[] s = sheetAt(sheet);
    ask(in(i, 0, s.length - 1), 1);
    s[i] = bits[sheet] == 8 ? (byte) v : bits[sheet] == 16 ? (short) v : v;
    return 1;
  }

  public int move(int sheet, int i, int other, int j, int n) {
    ask(in(sheet, 0, 3) && in(other, 0, 3), 1);
    int[] from = sheetAt(sheet);
    int[] to = sheetAt(other);
    ask(bits[sheet] == bits[other], 5);
    ask(n >= 0 && i >= 0 && j >= 0, 1);
    ask((long) i + n <= from.length && (long) j + n <= to.length, 1);
    int[] were = from.clone();
    for (int k = 0; k < n; k++) {
      to[j + k] = were[i + k];
    }
    return n;
  }

  public int prices(int sheet) {
    int[] s = sheetAt(sheet);
    int i = 0;
    while (i < s.length && i < now.traders.size() && in(s[i], 0, 99)) {
      now.traders.get(i).price = s[i];
      i++;
    }
    return i;
  }

  public int judge(int sheet) {
    int[] s = sheetAt(sheet);
    for (int i = 0; i < s.length || i < now.coins.size(); i++) {
      if (i >= s.length || i >= now.coins.size() || now.coins.get(i).holder != s[i]) {
        return i;
      }
    }
    return -1;
  }

  public int image() {
    kept = now.copy();
    return ++images;
  }

  public int restore() {
    ask(kept != null, 2);
    now = kept.copy();
    return now.day;
  }

  public int tell(int v) {
    ask(now.waiting.size() < 20, 4);
    now.waiting.add(v);
    return now.waiting.size();
  }

  public int check() {
    List<Integer> waited = now.waiting;
    now.waiting = new ArrayList<>();
    State s = now.copy();
    for (int i = 0; i < waited.size(); i++) {
      day(s);
      if (smells(s) != waited.get(i)) {
        return 1 + i;
      }
    }
    return 0;
  }

  public int count(int what) {
    ask(in(what, 0, 10), 1);
    int values = now.coins.stream().mapToInt(c -> c.value).sum();
    return new int[] {now.traders.size(), now.coins.size(), now.day, now.sales, now.fade, values,
        smells(now), now.tape.size(), now.waiting.size(), Math.min(40, trace.size()), now.z}[what];
  }

  public int told(int k) {
    ask(in(k, 1, 5), 1);
    return told[k];
  }
}
