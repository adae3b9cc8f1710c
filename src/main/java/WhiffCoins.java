/**
 * A market town whose coins keep a whiff of what they bought.
 *
 * <p>../shared/DOC.md tells, as numbered promises, what each call does and answers. The public
 * methods here ask for ERRORS and hand the work to the classes below; whatever they need is made
 * in the constructor, so that no call makes an object.
 */
public final class WhiffCoins {
  private static final int LOW = -1_000_000_000;
  private static final int BEYOND = 1;
  private static final int NONE = 2;
  private static final int STATE = 3;
  private static final int FULL = 4;
  private static final int UNLIKE = 5;

  private static final int TRADER = 0;
  private static final int TANNER = 1;
  private static final int PERFUMER = 2;
  private static final int DOG = 3;
  private static final int COBBLER = 4;
  private static final int CHURCH = 5;
  private static final int CLERK = 6;
  private static final int KINDS = 7;
  /** The KIND above each KIND; -1 above the first. */
  private static final int[] ABOVE = {-1, TRADER, TRADER, TRADER, TANNER, PERFUMER, DOG};

  private static final int WORTH = 0;
  private static final int TOLL = 1;

  private static final int MOST_TRADERS = 6;
  private static final int MOST_COINS = 8;
  private static final int MOST_SMELLS = 3;
  private static final int MOST_DAY = 9999;
  private static final int MOST_SALES = 9999;
  private static final int MOST_BYTES = 50;
  private static final int MOST_OPEN = 5;
  private static final int MOST_DIGITS = 4;
  private static final int MOST_TRACED = 40;
  private static final int MOST_ON_SHEET = 40;
  private static final int MOST_WAITING = 20;
  private static final int MOST_ROUND = 100;
  private static final int MOST_LAUNDERING = 3;
  private static final int SHEETS = 4;

  private final Market market = new Market();
  private final Numbers tape = new Numbers(MOST_BYTES);
  private final Numbers waiting = new Numbers(MOST_WAITING);

  private final Market keptMarket = new Market();
  private final Numbers keptTape = new Numbers(MOST_BYTES);
  private final Numbers keptWaiting = new Numbers(MOST_WAITING);
  private int images = 0;

  private final Thoughts thoughts = new Thoughts();
  private final Reader reader = new Reader();
  private final Voices voices = new Voices();
  private final Sheet[] sheets = {new Sheet(), new Sheet(), new Sheet(), new Sheet()};
  private final Numbers failures = new Numbers(UNLIKE + 1);

  public WhiffCoins() {
  }

  // ---- traders, coins

  public int trader(int km, int ware) {
    if (!isKindWithNumber(km) || !isSmell(ware)) {
      return fail(BEYOND);
    }
    if (market.traders() >= MOST_TRADERS) {
      return fail(FULL);
    }
    return market.addTrader(km, ware);
  }

  public int ofTrader(int trader, int what) {
    if (!market.hasTrader(trader)) {
      return fail(BEYOND);
    }
    switch (what) {
      case 0:
        return market.kinds.get(trader);
      case 1:
        return market.marks.get(trader);
      case 2:
        return market.wares.get(trader);
      case 3:
        return market.asked.get(trader);
      case 4:
        return market.likes.get(trader);
      case 5:
        return market.heldBy(trader);
      default:
        return fail(BEYOND);
    }
  }

  public int change(int trader, int what, int v) {
    if (!market.hasTrader(trader)) {
      return fail(BEYOND);
    }
    if (what == 0 && isSmell(v)) {
      return market.wares.exchange(trader, v);
    }
    if (what == 1 && isPrice(v)) {
      return market.asked.exchange(trader, v);
    }
    if (what == 2 && isSetOfSmells(v)) {
      return market.likes.exchange(trader, v);
    }
    return fail(BEYOND);
  }

  public int become(int trader, int km) {
    if (!market.hasTrader(trader) || !isKindWithNumber(km)) {
      return fail(BEYOND);
    }
    market.marks.set(trader, km % 10);
    return market.kinds.exchange(trader, km / 10);
  }

  public int as(int trader, int kind) {
    if (!market.hasTrader(trader) || !isWithin(kind, 0, KINDS - 1)) {
      return fail(BEYOND);
    }
    if (!isOfKind(market.kinds.get(trader), kind)) {
      return fail(UNLIKE);
    }
    return market.marks.get(trader);
  }

  public int coin(int value, int holder) {
    if (!isWithin(value, 1, 9) || !market.hasTrader(holder)) {
      return fail(BEYOND);
    }
    if (market.coins() >= MOST_COINS) {
      return fail(FULL);
    }
    return market.addCoin(value, holder);
  }

  public int ofCoin(int coin, int what) {
    if (!market.hasCoin(coin)) {
      return fail(BEYOND);
    }
    switch (what) {
      case 0:
        return market.values.get(coin);
      case 1:
        return market.holders.get(coin);
      case 2:
        return smellsIn(market.rows.get(coin));
      case 3:
        return market.rows.get(coin);
      default:
        return fail(BEYOND);
    }
  }

  public int rub(int coin, int v) {
    if (!market.hasCoin(coin) || !isRow(v)) {
      return fail(BEYOND);
    }
    market.rows.set(coin, v);
    return smellsIn(v);
  }

  public int fade(int v) {
    if (!isWithin(v, 1, 9)) {
      return fail(BEYOND);
    }
    int before = market.fade;
    market.fade = v;
    return before;
  }

  // ---- texts

  public int feed(long word, int n) {
    if (!isWithin(n, 1, 8)) {
      return fail(BEYOND);
    }
    if (tape.size() > MOST_BYTES - n) {
      return fail(FULL);
    }
    for (int i = 0; i < n; i++) {
      tape.add((int) (word >>> (8 * i)) & 255);
    }
    return tape.size();
  }

  public int text(int use) {
    if (!isUse(use)) {
      return fail(BEYOND);
    }
    int fault = reader.read(tape, use);
    tape.clear();
    if (fault >= 0) {
      return -10 - fault;
    }
    market.lawOf(use).code.copy(reader.code);
    return 1;
  }

  public int law(int use, int a, int b, int c) {
    return isUse(use) ? market.given(use, a, b, c) : fail(BEYOND);
  }

  // ---- sales, days

  public int worth(int coin, int trader) {
    if (!market.hasCoin(coin) || !market.hasTrader(trader)) {
      return fail(BEYOND);
    }
    return market.appraise(coin, trader);
  }

  public int sale(int coin, int trader) {
    if (!market.hasCoin(coin) || !market.hasTrader(trader)) {
      return fail(BEYOND);
    }
    if (market.holders.get(coin) == trader) {
      return fail(STATE);
    }
    return market.sell(coin, trader) ? 1 : 0;
  }

  public int days(int n) {
    if (!isWithin(n, 1, 100)) {
      return fail(BEYOND);
    }
    if (market.day > MOST_DAY - n) {
      return fail(STATE);
    }
    market.passDays(n);
    return market.smellsOfAll();
  }

  public int loose(int n) {
    if (!isWithin(n, 1, 40)) {
      return fail(BEYOND);
    }
    if (market.day > MOST_DAY - n) {
      return fail(STATE);
    }
    for (int i = 0; i < n; i++) {
      market.offerByDraws();
      market.passDay();
    }
    return market.smellsOfAll();
  }

  // ---- what would be

  public int worst(int trader, int other) {
    if (!areTwoTraders(trader, other)) {
      return fail(BEYOND);
    }
    int coin = thoughts.leastWorth(market, trader, other);
    return coin < 0 ? fail(NONE) : coin;
  }

  public int pays(int trader, int other, int sum) {
    if (!areTwoTraders(trader, other) || !isWithin(sum, 1, 999)) {
      return fail(BEYOND);
    }
    int set = thoughts.fewestCoins(market, trader, other, sum);
    return set == 0 ? fail(NONE) : set;
  }

  public int launder(int coin, int row, int what) {
    if (!market.hasCoin(coin) || !isRow(row) || !isPlaceOrAll(what)) {
      return fail(BEYOND);
    }
    int sales = thoughts.salesToRow(market, coin, row);
    if (sales < 0) {
      return fail(NONE);
    }
    if (what < 0) {
      return sales;
    }
    return what < sales ? thoughts.traderFound(what) : -1;
  }

  public int hands(int coin, int what) {
    if (!market.hasCoin(coin) || !isPlaceOrAll(what)) {
      return fail(BEYOND);
    }
    int ways = thoughts.waysOfHands(market, coin);
    if (what < 0) {
      return ways;
    }
    if (ways == 0 || what >= smellsIn(market.rows.get(coin))) {
      return fail(NONE);
    }
    return thoughts.traderFound(what);
  }

  public int round(int coin) {
    return market.hasCoin(coin) ? thoughts.salesAround(market, coin) : fail(BEYOND);
  }

  public int home() {
    int smell = market.strongestSmell();
    return smell == 0 ? fail(NONE) : smell;
  }

  public int outcasts() {
    return market.untaken();
  }

  public int takers(int coin, int n) {
    if (!market.hasCoin(coin) || !isWithin(n, 0, 100)) {
      return fail(BEYOND);
    }
    return thoughts.takersBehind(market, coin, n);
  }

  public int tolls(int trader, int n) {
    if (!market.hasTrader(trader) || !isWithin(n, 0, 100)) {
      return fail(BEYOND);
    }
    return thoughts.tollsOf(market, trader, n);
  }

  // ---- draws, voices, sheets, images, what is told

  public int seed(int v) {
    int before = market.z;
    market.z = v;
    return before;
  }

  public int voice(int trader, int act, int x) {
    if (!market.hasTrader(trader) || !isWithin(act, 0, 3)) {
      return fail(BEYOND);
    }
    voices.begin(market.kinds.get(trader), trader, market.marks.get(trader));
    return voices.speak(act, x);
  }

  public int trace(int i) {
    return isWithin(i, 0, voices.trace.size() - 1) ? voices.trace.get(i) : fail(NONE);
  }

  public int sheet(int sheet, int bits, int n) {
    Sheet one = sheetAt(sheet);
    if (one == null || (bits != 0 && bits != 8 && bits != 16 && bits != 32)) {
      return fail(BEYOND);
    }
    if (bits == 0) {
      one.begin(0, 0);
      return 1;
    }
    if (n < 0) {
      return fail(STATE);
    }
    if (n > MOST_ON_SHEET) {
      return fail(BEYOND);
    }
    one.begin(bits, n);
    return 1;
  }

  public int put(int sheet, int i, int v) {
    Sheet one = sheetAt(sheet);
    if (one == null) {
      return fail(BEYOND);
    }
    if (one.isMissing()) {
      return fail(NONE);
    }
    if (!isWithin(i, 0, one.numbers.size() - 1)) {
      return fail(BEYOND);
    }
    one.write(i, v);
    return 1;
  }

  public int move(int sheet, int i, int other, int j, int n) {
    Sheet from = sheetAt(sheet);
    Sheet to = sheetAt(other);
    if (from == null || to == null) {
      return fail(BEYOND);
    }
    if (from.isMissing() || to.isMissing()) {
      return fail(NONE);
    }
    if (from.bits != to.bits) {
      return fail(UNLIKE);
    }
    return to.numbers.copyPart(from.numbers, i, j, n) ? n : fail(BEYOND);
  }

  public int prices(int sheet) {
    Sheet one = sheetAt(sheet);
    if (one == null) {
      return fail(BEYOND);
    }
    if (one.isMissing()) {
      return fail(NONE);
    }
    int most = Math.min(one.numbers.size(), market.traders());
    int done = 0;
    for (; done < most && isPrice(one.numbers.get(done)); done++) {
      market.asked.set(done, one.numbers.get(done));
    }
    return done;
  }

  public int judge(int sheet) {
    Sheet one = sheetAt(sheet);
    if (one == null) {
      return fail(BEYOND);
    }
    if (one.isMissing()) {
      return fail(NONE);
    }
    return firstUnlike(one.numbers, market.holders);
  }

  public int image() {
    keptMarket.copy(market);
    keptTape.copy(tape);
    keptWaiting.copy(waiting);
    images++;
    return images;
  }

  public int restore() {
    if (images == 0) {
      return fail(NONE);
    }
    market.copy(keptMarket);
    tape.copy(keptTape);
    waiting.copy(keptWaiting);
    return market.day;
  }

  public int tell(int v) {
    return waiting.add(v) ? waiting.size() : fail(FULL);
  }

  public int check() {
    int wrong = thoughts.firstWrong(market, waiting);
    waiting.clear();
    return wrong + 1;
  }

  public int count(int what) {
    switch (what) {
      case 0:
        return market.traders();
      case 1:
        return market.coins();
      case 2:
        return market.day;
      case 3:
        return market.sales;
      case 4:
        return market.fade;
      case 5:
        return market.values.sum();
      case 6:
        return market.smellsOfAll();
      case 7:
        return tape.size();
      case 8:
        return waiting.size();
      case 9:
        return voices.trace.size();
      case 10:
        return market.z;
      default:
        return fail(BEYOND);
    }
  }

  public int told(int k) {
    return isWithin(k, BEYOND, UNLIKE) ? failures.get(k) : fail(BEYOND);
  }

  // ---- what the calls ask and use

  private int fail(int error) {
    failures.set(error, failures.get(error) + 1);
    return LOW - error;
  }

  private boolean areTwoTraders(int trader, int other) {
    return market.hasTrader(trader) && market.hasTrader(other) && trader != other;
  }

  /** The SHEET of a number; null: there is no such one. */
  private Sheet sheetAt(int i) {
    return i >= 0 && i < SHEETS && i < sheets.length ? sheets[i] : null;
  }

  private static boolean isWithin(int v, int low, int high) {
    return v >= low && v <= high;
  }

  private static boolean isKindWithNumber(int km) {
    return isWithin(km, 0, 10 * KINDS - 1);
  }

  private static boolean isSmell(int v) {
    return isWithin(v, 1, 7);
  }

  private static boolean isPrice(int v) {
    return isWithin(v, 0, 99);
  }

  private static boolean isSetOfSmells(int v) {
    return isWithin(v, 0, 254) && (v & 1) == 0;
  }

  private static boolean isUse(int v) {
    return v == WORTH || v == TOLL;
  }

  private static boolean isPlaceOrAll(int what) {
    return isWithin(what, -1, MOST_SMELLS - 1);
  }

  private static boolean isOfKind(int kind, int wanted) {
    int at = kind;
    for (int step = 0; step < KINDS && at != wanted; step++) {
      at = kindAbove(at);
    }
    return at == wanted;
  }

  private static int kindAbove(int kind) {
    return kind >= 0 && kind < ABOVE.length ? ABOVE[kind] : -1;
  }

  /** The first place at which two rows of numbers are not the same; -1: they are. */
  private static int firstUnlike(Numbers one, Numbers other) {
    int most = Math.min(one.size(), other.size());
    for (int i = 0; i < most; i++) {
      if (one.get(i) != other.get(i)) {
        return i;
      }
    }
    return one.size() == other.size() ? -1 : most;
  }

  // ---- ROWS, which are held as a number whose digits are the SMELLS, the latest first

  private static boolean isRow(int v) {
    if (!isWithin(v, 0, 777)) {
      return false;
    }
    int size = smellsIn(v);
    for (int i = 0; i < size; i++) {
      if (!isSmell(digit(v, 10, size, i))) {
        return false;
      }
    }
    return true;
  }

  private static int smellsIn(int row) {
    if (row <= 0) {
      return 0;
    }
    if (row < 10) {
      return 1;
    }
    return row < 100 ? 2 : 3;
  }

  private static int latestIn(int row) {
    return digit(row, 10, smellsIn(row), 0);
  }

  private static int strengthAt(int place) {
    return MOST_SMELLS - place;
  }

  private static int withLatest(int row, int smell) {
    int kept = smellsIn(row) < MOST_SMELLS ? row : row / 10;
    return smell * power(10, smellsIn(kept)) + kept;
  }

  private static int withOldest(int row, int smell) {
    return smellsIn(row) < MOST_SMELLS ? row * 10 + smell : row;
  }

  /** How strong the SMELLS of a set are together, by the first places of a ROW alone. */
  private static int strengthOf(int row, int set, int places) {
    int size = smellsIn(row);
    int strength = 0;
    for (int i = 0; i < size && i < places; i++) {
      if ((set >> digit(row, 10, size, i) & 1) != 0) {
        strength += strengthAt(i);
      }
    }
    return strength;
  }

  /** The digit at a place, from the front, of a number that has so many digits to a base. */
  private static int digit(int number, int base, int size, int place) {
    if (base <= 0) {
      return 0;
    }
    int rest = number;
    for (int i = size - 1; i > place; i--) {
      rest = rest / base;
    }
    return rest % base;
  }

  private static int power(int base, int times) {
    int product = 1;
    for (int i = 0; i < times; i++) {
      product *= base;
    }
    return product;
  }

  /** A row of numbers that keeps its room, and that no index leads out of. */
  private static final class Numbers {
    private final int[] items;
    private int size = 0;

    Numbers(int most) {
      items = new int[Math.max(0, most)];
    }

    int size() {
      return size;
    }

    int get(int i) {
      return i >= 0 && i < items.length ? items[i] : 0;
    }

    void set(int i, int v) {
      if (i >= 0 && i < items.length) {
        items[i] = v;
      }
    }

    int exchange(int i, int v) {
      int before = get(i);
      set(i, v);
      return before;
    }

    boolean add(int v) {
      if (size < 0 || size >= items.length) {
        return false;
      }
      items[size] = v;
      size++;
      return true;
    }

    int removeLast() {
      if (size <= 0) {
        return 0;
      }
      size--;
      return size < items.length ? items[size] : 0;
    }

    void clear() {
      size = 0;
    }

    void zeros(int n) {
      clear();
      for (int i = 0; i < n; i++) {
        add(0);
      }
    }

    int sum() {
      int sum = 0;
      for (int i = 0; i < size; i++) {
        sum += get(i);
      }
      return sum;
    }

    void copy(Numbers other) {
      size = Math.min(other.size, items.length);
      copyPart(other, 0, 0, size);
    }

    /** False, and nothing is copied: the numbers don't stand there. */
    boolean copyPart(Numbers from, int i, int j, int n) {
      if (n < 0 || i < 0 || j < 0 || i > from.size - n || j > size - n) {
        return false;
      }
      if (from.size > from.items.length || size > items.length) {
        return false;
      }
      System.arraycopy(from.items, i, items, j, n);
      return true;
    }
  }

  /** Numbers of 8, 16, 32 bits; of 0 bits: the SHEET is missing. */
  private static final class Sheet {
    final Numbers numbers = new Numbers(MOST_ON_SHEET);
    int bits = 0;

    boolean isMissing() {
      return bits == 0;
    }

    void begin(int newBits, int n) {
      bits = newBits;
      numbers.zeros(n);
    }

    void write(int i, int v) {
      numbers.set(i, bits == 32 ? v : v & ((1 << bits) - 1));
    }
  }

  /**
   * What a TEXT works out, as steps for a stack: a number from 0 on is itself, -1 .. -3 are the
   * NAMES, below that stands an operator as its byte with the sign turned.
   */
  private static final class Law {
    final Numbers code = new Numbers(MOST_BYTES);
    private final Numbers stack = new Numbers(MOST_BYTES);

    boolean isThere() {
      return code.size() > 0;
    }

    int workOut(int a, int b, int c) {
      stack.clear();
      for (int i = 0; i < code.size(); i++) {
        int step = code.get(i);
        if (step >= 0) {
          stack.add(step);
        } else if (step >= -3) {
          stack.add(step == -1 ? a : step == -2 ? b : c);
        } else if (step == -'!') {
          stack.add(stack.removeLast() == 0 ? 1 : 0);
        } else {
          int right = stack.removeLast();
          int left = stack.removeLast();
          stack.add(joined(-step, left, right));
        }
      }
      return stack.removeLast();
    }

    private static int joined(int operator, int left, int right) {
      switch (operator) {
        case '|':
          return left != 0 || right != 0 ? 1 : 0;
        case '&':
          return left != 0 && right != 0 ? 1 : 0;
        case '<':
          return left < right ? 1 : 0;
        case '=':
          return left == right ? 1 : 0;
        case '>':
          return left > right ? 1 : 0;
        case '+':
          return left + right;
        case '-':
          return left - right;
        case '*':
          return left * right;
        case '/':
          return right == 0 ? 0 : left / right;
        case '%':
          return right == 0 ? 0 : left % right;
        default:
          return 0;
      }
    }
  }

  /** Reads THE TAPE as a TEXT, from the left, and stops at the byte that is the FAULT. */
  private static final class Reader {
    private static final int LOOSEST = 0;
    private static final int COMPARING = 2;
    private static final int TIGHTEST = 4;
    private static final String WORTH_NAMES = "vld";
    private static final String TOLL_NAMES = "vkt";

    final Numbers code = new Numbers(MOST_BYTES);
    private Numbers bytes = code;
    private int use = WORTH;
    private int at = 0;

    /** The FAULT; -1: THE TAPE is a TEXT, and this.code what it works out. */
    int read(Numbers tape, int forUse) {
      bytes = tape;
      use = forUse;
      at = 0;
      code.clear();
      return readChain(LOOSEST, 0) && at == bytes.size() ? -1 : at;
    }

    /** Parts that the operators of one level join; open: how many of ! and ( are. */
    private boolean readChain(int level, int open) {
      if (level > TIGHTEST) {
        return readPart(open);
      }
      if (!readChain(level + 1, open)) {
        return false;
      }
      int most = level == COMPARING ? 1 : MOST_BYTES;
      for (int i = 0; i < most && levelOf(next()) == level; i++) {
        int operator = next();
        at++;
        if (!readChain(level + 1, open)) {
          return false;
        }
        code.add(-operator);
      }
      return true;
    }

    private boolean readPart(int open) {
      int first = next();
      if (isDigit(first)) {
        readNumber();
        return true;
      }
      if (first == '!' || first == '(') {
        return open < MOST_OPEN && (first == '!' ? readNot(open + 1) : readInner(open + 1));
      }
      int name = nameOf(first);
      if (name < 0) {
        return false;
      }
      at++;
      code.add(-1 - name);
      return true;
    }

    private boolean readNot(int open) {
      at++;
      if (!readPart(open)) {
        return false;
      }
      code.add(-'!');
      return true;
    }

    private boolean readInner(int open) {
      at++;
      if (!readChain(LOOSEST, open) || next() != ')') {
        return false;
      }
      at++;
      return true;
    }

    private void readNumber() {
      int number = 0;
      for (int i = 0; i < MOST_DIGITS && isDigit(next()); i++) {
        number = number * 10 + next() - '0';
        at++;
      }
      code.add(number);
    }

    /** The byte that is read next; -1: there is none. */
    private int next() {
      return at < bytes.size() ? bytes.get(at) : -1;
    }

    private int nameOf(int sign) {
      if (sign < 0) {
        return -1;
      }
      return (use == WORTH ? WORTH_NAMES : TOLL_NAMES).indexOf((char) sign);
    }

    private static boolean isDigit(int sign) {
      return sign >= '0' && sign <= '9';
    }

    private static int levelOf(int sign) {
      switch (sign) {
        case '|':
          return LOOSEST;
        case '&':
          return 1;
        case '<':
        case '=':
        case '>':
          return COMPARING;
        case '+':
        case '-':
          return 3;
        case '*':
        case '/':
        case '%':
          return TIGHTEST;
        default:
          return -1;
      }
    }
  }

  /** TRADERS and COINS, the laws they go by, and the DAYS that pass over them. */
  private static final class Market {
    final Numbers kinds = new Numbers(MOST_TRADERS);
    /** What the document calls m. */
    final Numbers marks = new Numbers(MOST_TRADERS);
    final Numbers wares = new Numbers(MOST_TRADERS);
    /** PRICES. */
    final Numbers asked = new Numbers(MOST_TRADERS);
    final Numbers likes = new Numbers(MOST_TRADERS);
    final Numbers values = new Numbers(MOST_COINS);
    final Numbers holders = new Numbers(MOST_COINS);
    final Numbers rows = new Numbers(MOST_COINS);
    private final Law worthLaw = new Law();
    private final Law tollLaw = new Law();
    int day = 0;
    int fade = 3;
    int sales = 0;
    int z = 1;

    void copy(Market other) {
      kinds.copy(other.kinds);
      marks.copy(other.marks);
      wares.copy(other.wares);
      asked.copy(other.asked);
      likes.copy(other.likes);
      values.copy(other.values);
      holders.copy(other.holders);
      rows.copy(other.rows);
      worthLaw.code.copy(other.worthLaw.code);
      tollLaw.code.copy(other.tollLaw.code);
      day = other.day;
      fade = other.fade;
      sales = other.sales;
      z = other.z;
    }

    int traders() {
      return kinds.size();
    }

    int coins() {
      return values.size();
    }

    boolean hasTrader(int i) {
      return i >= 0 && i < traders();
    }

    boolean hasCoin(int i) {
      return i >= 0 && i < coins();
    }

    int addTrader(int km, int ware) {
      kinds.add(km / 10);
      marks.add(km % 10);
      wares.add(ware);
      asked.add(10);
      likes.add(1 << ware);
      return traders() - 1;
    }

    int addCoin(int value, int holder) {
      values.add(value);
      holders.add(holder);
      rows.add(0);
      return coins() - 1;
    }

    boolean holds(int trader, int coin) {
      return coin >= 0 && coin < values.size() && holders.get(coin) == trader;
    }

    int heldBy(int trader) {
      int set = 0;
      for (int coin = 0; coin < coins(); coin++) {
        if (holds(trader, coin)) {
          set |= 1 << coin;
        }
      }
      return set;
    }

    int smellsOfAll() {
      int smells = 0;
      for (int coin = 0; coin < coins(); coin++) {
        smells += smellsIn(rows.get(coin));
      }
      return smells;
    }

    Law lawOf(int use) {
      return use == WORTH ? worthLaw : tollLaw;
    }

    /** What a USE gives with its NAMES in order, within its bounds. */
    int given(int use, int a, int b, int c) {
      Law law = lawOf(use);
      int low = use == WORTH ? -99 : 0;
      int free;
      if (law.isThere()) {
        free = law.workOut(a, b, c);
      } else {
        free = use == WORTH ? a * 10 + b * 2 - c : b;
      }
      return Math.max(low, Math.min(99, free));
    }

    /** WORTH of a COIN to a TRADER. */
    int appraise(int coin, int trader) {
      int kind = kinds.get(trader);
      int value = values.get(coin);
      int row = rows.get(coin);
      int places = kind == CLERK ? 1 : MOST_SMELLS;
      int liked = strengthOf(row, likes.get(trader), places);
      int disliked = strengthOf(row, ~likes.get(trader), places);
      switch (kind) {
        case TANNER:
          return given(WORTH, value, liked, 0);
        case COBBLER:
          return given(WORTH, value, liked, 0) + marks.get(trader);
        case DOG:
        case CLERK:
          return given(WORTH, value, 2 * liked, 2 * disliked);
        case PERFUMER:
          return given(WORTH, value, liked, disliked) + smellsIn(row);
        case CHURCH:
          return value * 10;
        default:
          return given(WORTH, value, liked, disliked);
      }
    }

    boolean wouldTake(int trader, int coin) {
      return appraise(coin, trader) >= asked.get(trader);
    }

    /** A SALE; false: it is REFUSED. (Without wouldTake, so that calls stay at most eight deep.) */
    boolean sell(int coin, int trader) {
      if (appraise(coin, trader) < asked.get(trader)) {
        return false;
      }
      holders.set(coin, trader);
      rows.set(coin, rowAfterSale(rows.get(coin), trader));
      sales = Math.min(MOST_SALES, sales + 1);
      return true;
    }

    private int rowAfterSale(int row, int trader) {
      switch (kinds.get(trader)) {
        case PERFUMER:
          return wares.get(trader);
        case CHURCH:
          return 0;
        default:
          return withLatest(row, wares.get(trader));
      }
    }

    void passDays(int n) {
      for (int i = 0; i < n; i++) {
        passDay();
      }
    }

    void passDay() {
      for (int trader = 0; trader < traders(); trader++) {
        mingle(trader);
      }
      day++;
      if (fade > 0 && day % fade == 0) {
        for (int coin = 0; coin < coins(); coin++) {
          rows.set(coin, rows.get(coin) / 10);
        }
      }
    }

    private void mingle(int trader) {
      int first = 0;
      while (first < coins() && !holds(trader, first)) {
        first++;
      }
      int smell = latestIn(rows.get(first));
      if (first >= coins() || smell == 0) {
        return;
      }
      for (int coin = first + 1; coin < coins(); coin++) {
        if (holds(trader, coin)) {
          rows.set(coin, withOldest(rows.get(coin), smell));
        }
      }
    }

    void offerByDraws() {
      int coins = coins();
      int traders = traders();
      if (coins <= 0 || traders <= 0) {
        return;
      }
      int coin = draw() % coins;
      int trader = draw() % traders;
      if (!holds(trader, coin)) {
        sell(coin, trader);
      }
    }

    private int draw() {
      z = z * 1103515245 + 12345;
      return z >>> 8;
    }

    /** What a TRADER pays this DAY for all COINS that it holds. */
    int tollToday(int trader) {
      int toll = 0;
      for (int coin = 0; coin < coins(); coin++) {
        if (holds(trader, coin)) {
          toll += given(TOLL, values.get(coin), smellsIn(rows.get(coin)), day);
        }
      }
      return toll;
    }

    int takersOf(int coin) {
      int set = 0;
      for (int trader = 0; trader < traders(); trader++) {
        if (!holds(trader, coin) && wouldTake(trader, coin)) {
          set |= 1 << trader;
        }
      }
      return set;
    }

    /** OUTCASTS. */
    int untaken() {
      int set = 0;
      for (int coin = 0; coin < coins(); coin++) {
        if (takersOf(coin) == 0) {
          set |= 1 << coin;
        }
      }
      return set;
    }

    /** HOME; 0: no COIN SMELLS. */
    int strongestSmell() {
      int strongest = 0;
      for (int smell = 1; smell <= 7; smell++) {
        if (strengthInAll(smell) > strengthInAll(strongest)) {
          strongest = smell;
        }
      }
      return strongest;
    }

    private int strengthInAll(int smell) {
      int strength = 0;
      for (int coin = 0; coin < coins(); coin++) {
        strength += strengthOf(rows.get(coin), 1 << smell, MOST_SMELLS);
      }
      return strength;
    }
  }

  /** What would be: where something goes on for it, it does in a market of its own. */
  private static final class Thoughts {
    private final Market thought = new Market();
    private final Numbers worths = new Numbers(MOST_COINS);
    /** The row of TRADERS found last: a number with a digit for each of them. */
    private int found = 0;
    private int foundBase = 1;
    private int foundSize = 0;

    /** WORST; -1: there is none. */
    int leastWorth(Market real, int trader, int other) {
      int worst = -1;
      for (int coin = 0; coin < real.coins(); coin++) {
        if (real.holds(trader, coin) && real.wouldTake(other, coin)
            && (worst < 0 || real.appraise(coin, trader) < real.appraise(worst, trader))) {
          worst = coin;
        }
      }
      return worst;
    }

    /** PAYS, as a set; 0: all together are not WORTH the sum. */
    int fewestCoins(Market real, int trader, int other, int sum) {
      worths.clear();
      for (int coin = 0; coin < real.coins(); coin++) {
        worths.add(real.holds(trader, coin) ? Math.max(0, real.appraise(coin, other)) : 0);
      }
      int best = 0;
      for (int set = 1; set < 1 << worths.size(); set++) {
        boolean isFewer = best == 0 || Integer.bitCount(set) < Integer.bitCount(best);
        if (isFewer && worthOfSet(set) >= sum) {
          best = set;
        }
      }
      return best;
    }

    /** A COIN without WORTH adds nothing, so that no set of the fewest has it. */
    private int worthOfSet(int set) {
      int sum = 0;
      for (int coin = 0; coin < worths.size(); coin++) {
        if ((set >> coin & 1) != 0) {
          sum += worths.get(coin);
        }
      }
      return sum;
    }

    /** LAUNDER: how many SALES, the TRADERS of which are found; -1: 3 are too few. */
    int salesToRow(Market real, int coin, int row) {
      thought.copy(real);
      for (int sales = 0; sales <= MOST_LAUNDERING; sales++) {
        int ways = power(real.traders(), sales);
        for (int way = 0; way < ways; way++) {
          find(way, real.traders(), sales);
          thought.holders.set(coin, real.holders.get(coin));
          thought.rows.set(coin, real.rows.get(coin));
          if (isSoldAlong(coin) && thought.rows.get(coin) == row) {
            return sales;
          }
        }
      }
      return -1;
    }

    /** The COIN goes to the TRADERS found; false: one of them holds it, or refuses. */
    private boolean isSoldAlong(int coin) {
      for (int place = 0; place < foundSize; place++) {
        int trader = traderFound(place);
        if (thought.holds(trader, coin) || !thought.sell(coin, trader)) {
          return false;
        }
      }
      return true;
    }

    private void find(int way, int base, int size) {
      found = way;
      foundBase = base;
      foundSize = size;
    }

    int traderFound(int place) {
      return digit(found, foundBase, foundSize, place);
    }

    /** HANDS: how many rows of TRADERS there are, the first of which is found. */
    int waysOfHands(Market real, int coin) {
      int row = real.rows.get(coin);
      int all = power(real.traders(), smellsIn(row));
      int first = 0;
      int ways = 0;
      for (int way = 0; way < all; way++) {
        find(way, real.traders(), smellsIn(row));
        if (areHandsOf(real, row)) {
          first = ways == 0 ? way : first;
          ways++;
        }
      }
      find(first, real.traders(), smellsIn(row));
      return ways;
    }

    private boolean areHandsOf(Market real, int row) {
      int before = -1;
      for (int place = 0; place < foundSize; place++) {
        int trader = traderFound(place);
        if (trader == before || real.wares.get(trader) != digit(row, 10, foundSize, place)) {
          return false;
        }
        before = trader;
      }
      return true;
    }

    /** ROUND. */
    int salesAround(Market real, int coin) {
      thought.copy(real);
      int sales = 0;
      while (sales < MOST_ROUND && isPassedOn(coin)) {
        sales++;
      }
      return sales;
    }

    private boolean isPassedOn(int coin) {
      int traders = thought.traders();
      int holder = thought.holders.get(coin);
      for (int step = 1; step < traders; step++) {
        if (thought.sell(coin, (holder + step) % traders)) {
          return true;
        }
      }
      return false;
    }

    int takersBehind(Market real, int coin, int n) {
      thought.copy(real);
      thought.passDays(n);
      return thought.takersOf(coin);
    }

    int tollsOf(Market real, int trader, int n) {
      thought.copy(real);
      int tolls = 0;
      for (int i = 0; i < n; i++) {
        tolls += thought.tollToday(trader);
        thought.passDay();
      }
      return tolls;
    }

    /** The first place at which the SMELLS behind a DAY more each are not as told; -1: all are. */
    int firstWrong(Market real, Numbers smells) {
      thought.copy(real);
      for (int i = 0; i < smells.size(); i++) {
        thought.passDay();
        if (thought.smellsOfAll() != smells.get(i)) {
          return i;
        }
      }
      return -1;
    }
  }

  /** VOICES of one TRADER, and THE TRACE of the BODIES that they begin. */
  private static final class Voices {
    private static final int SNIFFS = 0;
    private static final int SELLS = 1;
    private static final int TAKES = 2;
    private static final int TELLS = 3;
    private static final int ACTS = 4;
    private static final int MOST_DEEP = 40;
    /** The BODIES, by KIND and act; 0: that KIND has none of its own. */
    private static final int[] BODIES = {
      10, 11, 12, 13,
      20, 0, 0, 0,
      0, 0, 30, 0,
      0, 40, 0, 0,
      0, 0, 0, 50,
      0, 0, 60, 61,
      0, 70, 0, 0,
    };

    final Numbers trace = new Numbers(MOST_TRACED);
    private int kind = TRADER;
    private int number = 0;
    private int mark = 0;

    void begin(int newKind, int newNumber, int newMark) {
      kind = newKind;
      number = newNumber;
      mark = newMark;
      trace.clear();
    }

    int speak(int act, int x) {
      return heard(kind, act, x, 0);
    }

    /** What the first BODY of an act gives, from a KIND upwards. */
    private int heard(int from, int act, int x, int depth) {
      int owner = ownerOf(from, act);
      if (owner < 0 || depth > MOST_DEEP) {
        return 0;
      }
      int body = bodyOf(owner, act);
      int above = kindAbove(owner);
      int next = depth + 1;
      trace.add(body);
      switch (body) {
        case 10:
          return x + number;
        case 11:
          return heard(kind, SNIFFS, x, next) * 2;
        case 12:
          return x - mark;
        case 13:
          return heard(kind, SELLS, x, next) ^ heard(kind, TAKES, x, next);
        case 20:
          return heard(above, SNIFFS, x, next) * 3;
        case 30:
          return -heard(above, TAKES, x, next);
        case 40:
          return heard(above, SELLS, x, next) - heard(kind, TAKES, 1, next);
        case 50:
          return heard(above, TELLS, x, next) - heard(kind, SNIFFS, 2, next);
        case 60:
          return heard(above, TAKES, x, next) ^ number;
        case 61:
          return heard(kind, SELLS, x, next) - heard(above, TELLS, x, next);
        case 70:
          return heard(above, SELLS, x + 1, next);
        default:
          return 0;
      }
    }

    /** The KIND, from one upwards, that has a BODY of an act; -1: none has. */
    private static int ownerOf(int from, int act) {
      int at = from;
      for (int step = 0; step < KINDS && at >= 0; step++) {
        if (bodyOf(at, act) != 0) {
          return at;
        }
        at = kindAbove(at);
      }
      return -1;
    }

    private static int bodyOf(int ofKind, int act) {
      int i = ofKind * ACTS + act;
      return i >= 0 && i < BODIES.length ? BODIES[i] : 0;
    }
  }
}
