/** Each state that the document bounds: empty, full, at its end, around, REFUSED, restored. */
public final class EdgesTest {
  public static void main(String[] args) {
    salesAtMost();
    fades();
    mostOfAll();
    worthAtPrice();
    heldLaws();
    everyByte();
    tapeIsFull();
    voicesWrap();
    drawsWrap();
    comparisons();
    sumsThatWrap();
    handsOfMany();
    fewTraders();
    homeOfAll();
    backToFewer();
    sheetNumbers();
    shorterSheet();
    waitingNumbers();
    daysBehindTheLast();
    images();
    toldOfEach();
    Due.end();
  }

  private static int nextButOne(int z) {
    return (z * 1103515245 + 12345) * 1103515245 + 12345;
  }

  /** The TRADER of six that holds the only COIN behind so many DAYS; -1: a DAY brings no SALE. */
  private static int holderBehind(int z, int holder, int days) {
    int now = z;
    int at = holder;
    for (int day = 0; day < days; day++) {
      now = nextButOne(now);
      int to = (now >>> 8) % 6;
      if (to == at) {
        return -1;
      }
      at = to;
    }
    return at;
  }

  /** "9999 at most": 9999 DAYS with a SALE on each, and two more, by just 512 calls. */
  private static void salesAtMost() {
    WhiffCoins town = Due.town(50, 50, 50, 50, 50, 50);
    town.coin(9, 0);
    int holder = 0;
    for (int day = 0; day < 9999; day += 40) {
      int days = Math.min(40, 9999 - day);
      int z = 0;
      while (holderBehind(z, holder, days) < 0) {
        z++;
      }
      town.seed(z);
      town.loose(days);
      holder = holderBehind(z, holder, days);
    }
    Due.is("15: a SALE on each DAY", town.count(3), 9999);
    Due.is("15: still a SALE", town.sale(0, (holder + 1) % 6), 1);
    Due.is("15: no more SALES than 9999", town.count(3), 9999);
    Due.is("15: still a SALE", town.sale(0, holder), 1);
    Due.is("15: no more SALES than 9999", town.count(3), 9999);
  }

  private static void fades() {
    int[] rows = {765, 76, 7, 0};
    for (int fade = 1; fade <= 9; fade++) {
      WhiffCoins town = Due.town(0);
      Due.coin(town, 1, 0, 765);
      town.fade(fade);
      for (int day = 1; day <= 30; day++) {
        int gone = Math.min(3, day / fade);
        Due.is("16: FADE " + fade + ", DAY " + day, town.days(1), 3 - gone);
        Due.is("16: FADE " + fade + ", ROW on " + day, town.ofCoin(0, 3), rows[gone]);
      }
    }
  }

  /** Six TRADERS, eight COINS of VALUE 9, all held by TRADER 0. */
  private static WhiffCoins rich() {
    WhiffCoins town = Due.town(0, 0, 0, 0, 0, 49);
    for (int coin = 0; coin < 8; coin++) {
      Due.coin(town, 9, 0, 111);
    }
    return town;
  }

  private static void mostOfAll() {
    WhiffCoins town = rich();
    Due.is("3: all COINS", town.ofTrader(0, 5), 255);
    Due.is("3: no COINS", town.ofTrader(5, 5), 0);
    Due.is("39: VALUES", town.count(5), 72);
    Due.is("39: SMELLS", town.count(6), 24);
    Due.is("24: all are taken", town.outcasts(), 0);
    Due.is("25: all others", town.takers(0, 0), 62);
    Due.text(town, 0, "99");
    Due.is("19: seven", town.pays(0, 5, 7 * 108), 127);
    Due.is("19: all eight", town.pays(0, 5, 7 * 108 + 1), 255);
    Due.is("19: just all", town.pays(0, 5, 8 * 108), 255);
    Due.is("19: one more than all", town.pays(0, 5, 8 * 108 + 1), Due.NONE);
    Due.text(town, 1, "99");
    Due.is("26: the most", town.tolls(0, 100), 8 * 99 * 100);
    Due.is("26: the most but one", town.tolls(0, 99), 8 * 99 * 99);
    Due.text(town, 0, "0");
    Due.is("19: none is above 0", town.pays(0, 1, 1), Due.NONE);
    Due.is("24: nobody takes any", town.outcasts(), 255);
    Due.is("18: nothing is taken", town.worst(0, 5), Due.NONE);
    Due.text(town, 0, "1");
    Due.is("19: eight of 1", town.pays(0, 1, 8), 255);
    Due.is("19: not nine", town.pays(0, 1, 9), Due.NONE);
  }

  /** "Its PRICE, or more", in each act that asks it, at the PRICE and one below. */
  private static void worthAtPrice() {
    String[] texts = {"0", "0-1", "99", "98", "10", "9"};
    int[] prices = {0, 0, 99, 99, 10, 10};
    for (int i = 0; i < texts.length; i++) {
      WhiffCoins town = Due.town(0, 0);
      town.coin(1, 0);
      Due.text(town, 0, texts[i]);
      town.change(1, 1, prices[i]);
      town.change(0, 1, 99);
      int is = i % 2 == 0 ? 1 : 0;
      String what = texts[i] + " for " + prices[i];
      Due.is("18: " + what, town.worst(0, 1), is == 1 ? 0 : Due.NONE);
      Due.is("20: " + what, town.launder(0, 2, -1), is == 1 ? 1 : Due.NONE);
      Due.is("22: " + what, town.round(0), texts[i].equals("99") ? 100 : is);
      Due.is("24: " + what, town.outcasts(), 1 - is);
      Due.is("25: " + what, town.takers(0, 0), 2 * is);
      Due.is("15: " + what, town.sale(0, 1), is);
    }
    WhiffCoins town = Due.town(0, 49);
    town.coin(1, 0);
    Due.text(town, 0, "89");
    town.change(1, 1, 99);
    Due.is("15: 89 and 9 for 99", town.sale(0, 1), 0);
    Due.text(town, 0, "90");
    Due.is("15: 90 and 9 for 99", town.sale(0, 1), 1);
  }

  private static int held(int least, int v) {
    return Math.max(least, Math.min(99, v));
  }

  private static void heldLaws() {
    int[] given = {Integer.MIN_VALUE, -101, -100, -99, -98, -1, 0, 1, 98, 99, 100, 101,
        Integer.MAX_VALUE};
    WhiffCoins town = new WhiffCoins();
    for (int v : given) {
      Due.is("13: k " + v, town.law(1, 0, v, 0), held(0, v));
      Due.is("13: d " + v, town.law(0, 0, 0, v), held(-99, 0 - v));
    }
    Due.is("13: v*10", town.law(0, 9, 0, 0), 90);
    Due.is("13: l*2", town.law(0, 0, 49, 0), 98);
    Due.is("13: l*2", town.law(0, 0, 50, 0), 99);
    Due.text(town, 0, "l");
    Due.text(town, 1, "t");
    for (int v : given) {
      Due.is("13: text l " + v, town.law(0, 7, v, 7), held(-99, v));
      Due.is("13: text t " + v, town.law(1, 7, 7, v), held(0, v));
    }
  }

  /** Of each byte, at each kind of place: whether a TEXT goes on with it. */
  private static void everyByte() {
    String[] names = {"vld", "vkt"};
    String behind = "|&<=>+-*/%";
    for (int use = 0; use < 2; use++) {
      String begins = names[use] + "0123456789!(";
      String ends = names[use] + "0123456789";
      for (char c = 0; c < 256; c++) {
        for (String ahead : new String[] {"", "v+", "(", "!", "(v<"}) {
          boolean isWhole = ends.indexOf(c) >= 0 && ahead.indexOf('(') < 0;
          fault(use, ahead, c, begins.indexOf(c) >= 0, isWhole);
        }
        fault(use, "v", c, behind.indexOf(c) >= 0, false);
        fault(use, "(v", c, behind.indexOf(c) >= 0 || c == ')', c == ')');
        fault(use, "(v)", c, behind.indexOf(c) >= 0, false);
        fault(use, "v<v", c, "|&+-*/%".indexOf(c) >= 0, false);
        fault(use, "(v<v", c, "|&+-*/%)".indexOf(c) >= 0, c == ')');
        fault(use, "123", c, (behind + "0123456789").indexOf(c) >= 0, in09(c));
        fault(use, "1234", c, behind.indexOf(c) >= 0, false);
        fault(use, "!!!!!", c, ends.indexOf(c) >= 0, ends.indexOf(c) >= 0);
        fault(use, "(((((", c, ends.indexOf(c) >= 0, false);
        fault(use, "!!!!", c, begins.indexOf(c) >= 0, ends.indexOf(c) >= 0);
      }
    }
  }

  private static boolean in09(char c) {
    return c >= '0' && c <= '9';
  }

  private static void fault(int use, String ahead, char c, boolean goesOn, boolean isWhole) {
    int n = ahead.length();
    int due = isWhole ? 1 : goesOn ? -10 - (n + 1) : -10 - n;
    String what = "12: " + ahead + " and byte " + (int) c;
    Due.is(what, Due.text(new WhiffCoins(), use, ahead + c), due);
  }

  private static void tapeIsFull() {
    for (int n = 1; n <= 8; n++) {
      WhiffCoins town = new WhiffCoins();
      int there = 0;
      while (there + n <= 50) {
        there += n;
        Due.is("11: by " + n, town.feed('1', n), there);
      }
      Due.is("11: no more by " + n, town.feed('1', n), Due.FULL);
      Due.is("11: as many as there were", town.count(7), there);
      for (; there < 50; there++) {
        Due.is("11: one more", town.feed('1', 1), there + 1);
      }
      Due.is("11: full", town.feed('1', 1), Due.FULL);
      Due.is("12: a fault", town.text(0), n == 1 ? -14 : -11);
      Due.is("12: THE TAPE is empty", town.count(7), 0);
      Due.is("11: begins anew", town.feed('1', n), n);
    }
  }

  private static void voicesWrap() {
    int max = Integer.MAX_VALUE;
    int min = Integer.MIN_VALUE;
    WhiffCoins town = Due.town(0, 0, 0, 59);
    Due.is("28: sniffs", town.voice(3, 0, max), min + 2);
    Due.is("28: sells", town.voice(3, 1, max), 4);
    Due.is("28: takes", town.voice(3, 2, min + 9), min ^ 3);
    Due.is("28: takes, by ^", town.voice(3, 2, 7), 2 ^ 3);
    Due.is("28: takes, by ^", town.voice(3, 2, 8), 1 ^ 3);
    town.become(3, 19);
    Due.is("28: sniffs", town.voice(3, 0, max), min + 6);
    town.become(3, 69);
    Due.is("28: sells", town.voice(3, 1, max), 6 - (1 - 9));
    town.become(3, 9);
    Due.is("28: takes", town.voice(3, 2, min), max - 8);
  }

  private static void drawsWrap() {
    int[] seeds = {Integer.MIN_VALUE, Integer.MAX_VALUE, -1, 0, 1, 1 << 24};
    int last = 1;
    WhiffCoins town = Due.town(0);
    town.coin(9, 0);
    for (int seed : seeds) {
      Due.is("27: was", town.seed(seed), last);
      town.loose(1);
      long z = seed;
      z = (int) (z * 1103515245L + 12345L);
      z = (int) (z * 1103515245L + 12345L);
      Due.is("17: z behind " + seed, town.count(10), z);
      last = (int) z;
    }
  }

  private static void comparisons() {
    WhiffCoins town = new WhiffCoins();
    Due.is("12: compares", Due.text(town, 0, "(v<l)*4+(v=l)*2+(v>l)"), 1);
    int[][] pairs = {{Integer.MIN_VALUE, Integer.MAX_VALUE, 4},
        {Integer.MAX_VALUE, Integer.MIN_VALUE, 1}, {0, 0, 2}, {3, 2, 1}, {2, 3, 4}, {-1, 0, 4}};
    for (int[] p : pairs) {
      Due.is("13: " + p[0] + " and " + p[1], town.law(0, p[0], p[1], 0), p[2]);
    }
  }

  private static void sumsThatWrap() {
    int max = Integer.MAX_VALUE;
    int min = Integer.MIN_VALUE;
    String[] texts = {"v+l", "v+l", "v-l", "v-l", "v*l", "v*l", "v*l", "v/l", "v%l", "0-v"};
    int[][] names = {{max, 1}, {min, -1}, {min, 1}, {max, -1}, {65536, 65536}, {46341, 46341},
        {46340, 46340}, {min, -1}, {min, -1}, {min, 0}};
    int[] due = {-99, 99, 99, -99, 0, -99, 99, -99, 0, -99};
    for (int i = 0; i < texts.length; i++) {
      WhiffCoins town = new WhiffCoins();
      Due.text(town, 0, texts[i]);
      String what = "13: " + texts[i] + " of " + names[i][0] + " and " + names[i][1];
      Due.is(what, town.law(0, names[i][0], names[i][1], 0), due[i]);
    }
  }

  private static void handsOfMany() {
    WhiffCoins town = rich();
    for (int trader = 0; trader < 6; trader++) {
      town.change(trader, 0, 1);
    }
    int[] rows = {0, 1, 11, 111};
    int[] ways = {1, 6, 30, 150};
    for (int i = 0; i < 4; i++) {
      town.rub(0, rows[i]);
      Due.is("21: rows of " + rows[i], town.hands(0, -1), ways[i]);
      for (int what = 0; what < 3; what++) {
        Due.is("21: hand " + what, town.hands(0, what), what < i ? what % 2 : Due.NONE);
      }
    }
  }

  private static void fewTraders() {
    WhiffCoins town = Due.town(0);
    Due.coin(town, 9, 0, 1);
    Due.is("21: one TRADER, one SMELL", town.hands(0, -1), 1);
    Due.is("21: one TRADER, one SMELL", town.hands(0, 0), 0);
    Due.is("18: no other", town.worst(0, 1), Due.BEYOND);
    Due.is("20: as it is", town.launder(0, 1, -1), 0);
    Due.is("20: nobody to sell to", town.launder(0, 11, -1), Due.NONE);
    Due.is("22: nobody to sell to", town.round(0), 0);
    Due.is("24: nobody to sell to", town.outcasts(), 1);
    Due.is("25: nobody to sell to", town.takers(0, 0), 0);
    Due.is("17: offered to its HOLDER alone", town.loose(2), 1);
    Due.is("17: no SALES", town.count(3), 0);
    town.rub(0, 11);
    Due.is("21: not one behind itself", town.hands(0, -1), 0);
    Due.is("21: not one behind itself", town.hands(0, 0), Due.NONE);
  }

  private static void homeOfAll() {
    for (int smell = 1; smell <= 7; smell++) {
      WhiffCoins town = Due.town(0);
      for (int other = 7; other >= smell; other--) {
        Due.coin(town, 9, 0, other);
      }
      Due.is("23: of several the least", town.home(), smell);
      Due.coin(town, 1, 0, 7);
      Due.is("23: the strongest", town.home(), 7);
    }
    WhiffCoins town = Due.town(0);
    Due.coin(town, 1, 0, 122);
    Due.is("23: 3 and 2 and 1", town.home(), 1);
    Due.coin(town, 1, 0, 661);
    Due.is("23: 4 and 3 and 5", town.home(), 6);
  }

  /** What there was beyond the IMAGE must leave nothing behind. */
  private static void backToFewer() {
    WhiffCoins town = Due.town(10);
    Due.coin(town, 2, 0, 3);
    town.image();
    for (int trader = 1; trader < 6; trader++) {
      town.trader(30 + trader, 7);
      town.change(trader, 1, 1);
      town.change(trader, 2, 254);
    }
    for (int coin = 1; coin < 8; coin++) {
      Due.coin(town, 9, 0, 777);
    }
    Due.is("36: DAY", town.restore(), 0);
    Due.is("36: SMELLS", town.count(6), 1);
    Due.is("36: VALUES", town.count(5), 2);
    Due.is("36: COINS held", town.ofTrader(0, 5), 1);
    Due.is("36: HOME", town.home(), 3);
    Due.is("36: OUTCASTS", town.outcasts(), 1);
    Due.is("36: TAKERS", town.takers(0, 0), 0);
    Due.is("36: ROUND", town.round(0), 0);
    Due.is("36: TOLLS", town.tolls(0, 1), 1);
    Due.is("36: no TRADER 1", town.ofTrader(1, 0), Due.BEYOND);
    Due.is("36: no COIN 1", town.ofCoin(1, 0), Due.BEYOND);
    town.sheet(0, 8, 1);
    Due.is("36: judge", town.judge(0), -1);
    town.sheet(0, 8, 2);
    Due.is("36: judge", town.judge(0), 1);
    Due.is("36: prices", town.prices(0), 1);
    town.tell(1);
    Due.is("36: check", town.check(), 0);
    Due.is("36: days", town.days(1), 1);
    Due.is("2: a new TRADER", town.trader(0, 2), 1);
    Due.is("2: PRICE 10 at first", town.ofTrader(1, 3), 10);
    Due.is("2: LIKES its WARE at first", town.ofTrader(1, 4), 4);
    Due.is("2: no COINS at first", town.ofTrader(1, 5), 0);
    Due.is("7: a new COIN", town.coin(1, 1), 1);
    Due.is("7: no SMELLS at first", town.ofCoin(1, 3), 0);
    Due.is("39: SMELLS", town.count(6), 1);
  }

  private static void sheetNumbers() {
    int[] sevens = {7, 256 + 7, 7 - 256, 65536 + 7, 7 - 65536, Integer.MIN_VALUE + 7};
    int[] fits = {32, 8, 8, 16, 16, 16};
    for (int i = 0; i < sevens.length; i++) {
      for (int bits = 8; bits <= 32; bits *= 2) {
        WhiffCoins town = Due.town(0);
        town.sheet(3, bits, 1);
        town.put(3, 0, sevens[i]);
        int due = bits <= fits[i] ? 1 : 0;
        Due.is("31: " + sevens[i] + " by " + bits, town.prices(3), due);
        Due.is("31: " + sevens[i] + " by " + bits, town.ofTrader(0, 3), due == 1 ? 7 : 10);
        town.sheet(3, bits, 1);
        Due.is("30: 0 again", town.prices(3) + town.ofTrader(0, 3), 1);
      }
    }
    int[] numbers = {0, 99, 100, -1};
    for (int v : numbers) {
      WhiffCoins town = Due.town(0, 0);
      town.sheet(0, 32, 2);
      town.put(0, 1, v);
      Due.is("33: then " + v, town.prices(0), v >= 0 && v <= 99 ? 2 : 1);
      Due.is("33: no ERROR", town.told(1), 0);
    }
    WhiffCoins town = Due.town(0);
    town.sheet(0, 8, 0);
    town.sheet(1, 8, 40);
    Due.is("31: of none", town.put(0, 0, 0), Due.BEYOND);
    Due.is("32: none of none", town.move(0, 0, 0, 0, 0), 0);
    Due.is("32: one of none", town.move(0, 0, 1, 0, 1), Due.BEYOND);
    Due.is("32: one to none", town.move(1, 0, 0, 0, 1), Due.BEYOND);
    Due.is("32: all 40", town.move(1, 0, 1, 0, 40), 40);
    Due.is("32: 41", town.move(1, 0, 1, 0, 41), Due.BEYOND);
    Due.is("30: missing", town.sheet(1, 0, 40), 1);
    Due.is("31: missing", town.put(1, 0, 0), Due.NONE);
  }

  /** What a longer SHEET had must leave nothing behind in a shorter one. */
  private static void shorterSheet() {
    for (int coins = 0; coins <= 8; coins++) {
      WhiffCoins town = Due.town(0, 0);
      for (int coin = 0; coin < coins; coin++) {
        town.coin(1, 0);
      }
      town.sheet(0, 8, 40);
      for (int i = 0; i < 40; i++) {
        town.put(0, i, 1);
      }
      Due.is("34: unlike", town.judge(0), 0);
      Due.is("30: shorter, all 0", town.sheet(0, 8, coins), 1);
      Due.is("34: all are", town.judge(0), -1);
      Due.is("31: behind its end", town.put(0, coins, 1), Due.BEYOND);
      Due.is("34: all are", town.judge(0), -1);
      Due.is("33: no more than it has", town.prices(0), Math.min(2, coins));
      Due.is("30: longer again, all 0", town.sheet(0, 8, 9), 1);
      town.coin(1, 0);
      Due.is("34: too many, all 0", town.judge(0), Math.min(8, coins + 1));
    }
  }

  private static void waitingNumbers() {
    for (int wrong = 0; wrong <= 20; wrong++) {
      WhiffCoins town = Due.town(0);
      for (int i = 0; i < 20; i++) {
        Due.is("37: wait", town.tell(i == wrong ? -1 : 0), i + 1);
      }
      Due.is("37: a 21st", town.tell(0), Due.FULL);
      Due.is("38: wrong at " + wrong, town.check(), wrong == 20 ? 0 : wrong + 1);
      Due.is("38: none wait then", town.count(8), 0);
      Due.is("38: none wait", town.check(), 0);
    }
  }

  /** DAY is 9999 here: what is thought goes on, what is done does not. */
  private static void daysBehindTheLast() {
    WhiffCoins town = Due.town(0, 0);
    for (int i = 0; i < 99; i++) {
      town.days(100);
    }
    Due.is("16: to the last DAY", town.days(99), 0);
    Due.is("39: DAY", town.count(2), 9999);
    Due.coin(town, 1, 0, 21);
    Due.coin(town, 1, 0, 0);
    town.fade(5);
    Due.is("16: no DAY more", town.days(1), Due.STATE);
    Due.is("17: no DAY more", town.loose(1), Due.STATE);
    int[] smells = {1, 2, 3};
    for (int v : smells) {
      town.tell(v);
    }
    Due.is("38: faded on DAY 10000, then mingled", town.check(), 0);
    town.tell(3);
    Due.is("38: not faded on DAY 10000", town.check(), 1);
    Due.is("26: t is 9999, then 10000", Due.text(town, 1, "(t=9999)*3+(t=9999+1)*50"), 1);
    Due.is("26: t is 9999", town.tolls(0, 1), 6);
    Due.is("26: then 10000", town.tolls(0, 2), 106);
    Due.is("26: 100 DAYS", town.tolls(0, 100), 106);
    Due.is("25: 100 DAYS", town.takers(0, 100), 2);
    Due.is("35: an IMAGE of the last DAY", town.image(), 1);
    Due.is("36: the last DAY", town.restore(), 9999);
    Due.is("39: DAY", town.count(2), 9999);
  }

  private static void images() {
    WhiffCoins town = Due.town(0);
    Due.is("36: no IMAGE", town.restore(), Due.NONE);
    for (int i = 1; i <= 12; i++) {
      Due.is("35: how often", town.image(), i);
      town.days(i);
      Due.is("36: the latest", town.restore(), 0);
      Due.is("36: and again", town.restore(), 0);
    }
    town.days(7);
    Due.is("35: restoring does not count", town.image(), 13);
    town.days(1);
    Due.is("36: the latest", town.restore(), 7);
  }

  private static void toldOfEach() {
    WhiffCoins town = Due.town(0);
    town.coin(1, 0);
    for (int i = 0; i < 20; i++) {
      town.tell(0);
    }
    for (int i = 1; i <= 30; i++) {
      Due.is("40: BEYOND", town.fade(0), Due.BEYOND);
      Due.is("40: NONE", town.home(), Due.NONE);
      Due.is("40: STATE", town.sale(0, 0), Due.STATE);
      Due.is("40: FULL", town.tell(0), Due.FULL);
      Due.is("40: KIND", town.as(0, 6), Due.KIND);
      for (int k = 1; k <= 5; k++) {
        Due.is("40: how many of " + k, town.told(k), i);
      }
    }
    Due.is("40: counted, too", town.told(6) + town.told(1), Due.BEYOND + 31);
    Due.is("40: a FAULT is no ERROR", town.text(0) + town.told(1), -10 + 31);
  }
}
