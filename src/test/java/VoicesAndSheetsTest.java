/** Promises 27 to 40. */
public final class VoicesAndSheetsTest {
  public static void main(String[] args) {
    seed();
    voice();
    trace();
    sheet();
    put();
    move();
    prices();
    judge();
    image();
    imageOfAll();
    tell();
    check();
    count();
    told();
    Due.end();
  }

  private static void seed() {
    WhiffCoins town = new WhiffCoins();
    Due.is("27: first", town.seed(-5), 1);
    Due.is("27: next", town.seed(Due.BEYOND), -5);
    Due.is("27: any number", town.seed(0), Due.BEYOND);
    Due.is("27: which is no error", town.told(1), 0);
  }

  /** TRADER 1 of a KIND, with m 3; x is 5. */
  private static void voiceOf(int kind, int act, int due, int... trace) {
    WhiffCoins town = Due.town(0, 10 * kind + 3);
    String what = kind + " by " + act;
    Due.is("28: " + what, town.voice(1, act, 5), due);
    Due.is("28: bodies of " + what, town.count(9), trace.length);
    for (int i = 0; i < trace.length; i++) {
      Due.is("29: " + what + ", body " + i, town.trace(i), trace[i]);
    }
    Due.is("29: no more of " + what, town.trace(trace.length), Due.NONE);
  }

  private static void voice() {
    voiceOf(0, 0, 6, 10);
    voiceOf(0, 1, 12, 11, 10);
    voiceOf(0, 2, 2, 12);
    voiceOf(0, 3, 12 ^ 2, 13, 11, 10, 12);
    voiceOf(1, 0, 18, 20, 10);
    voiceOf(1, 1, 36, 11, 20, 10);
    voiceOf(1, 2, 2, 12);
    voiceOf(1, 3, 36 ^ 2, 13, 11, 20, 10, 12);
    voiceOf(2, 0, 6, 10);
    voiceOf(2, 1, 12, 11, 10);
    voiceOf(2, 2, -2, 30, 12);
    voiceOf(2, 3, 12 ^ -2, 13, 11, 10, 30, 12);
    voiceOf(3, 0, 6, 10);
    voiceOf(3, 1, 14, 40, 11, 10, 12);
    voiceOf(3, 2, 2, 12);
    voiceOf(3, 3, 14 ^ 2, 13, 40, 11, 10, 12, 12);
    voiceOf(4, 0, 18, 20, 10);
    voiceOf(4, 1, 36, 11, 20, 10);
    voiceOf(4, 2, 2, 12);
    voiceOf(4, 3, (36 ^ 2) - 9, 50, 13, 11, 20, 10, 12, 20, 10);
    voiceOf(5, 0, 6, 10);
    voiceOf(5, 1, 12, 11, 10);
    voiceOf(5, 2, -2 ^ 1, 60, 30, 12);
    voiceOf(5, 3, 12 - (12 ^ -1), 61, 11, 10, 13, 11, 10, 60, 30, 12);
    voiceOf(6, 0, 6, 10);
    voiceOf(6, 1, 16, 70, 40, 11, 10, 12);
    voiceOf(6, 2, 2, 12);
    voiceOf(6, 3, 16 ^ 2, 13, 70, 40, 11, 10, 12, 12);
  }

  private static void trace() {
    WhiffCoins town = Due.town(0, 10);
    town.voice(1, 3, 5);
    Due.is("29: five", town.count(9), 5);
    Due.is("28: act 4", town.voice(1, 4, 0), Due.BEYOND);
    Due.is("28: act -1", town.voice(1, -1, 0), Due.BEYOND);
    Due.is("28: trader 2", town.voice(2, 0, 0), Due.BEYOND);
    Due.is("28: trader -1", town.voice(-1, 0, 0), Due.BEYOND);
    Due.is("29: five still", town.count(9), 5);
    Due.is("29: -1", town.trace(-1), Due.NONE);
    Due.is("29: 5", town.trace(5), Due.NONE);
    Due.is("29: 4", town.trace(4), 12);
    Due.is("28: goes round", town.voice(0, 1, Integer.MAX_VALUE), -2);
    Due.is("28: goes round", town.voice(1, 0, Integer.MAX_VALUE), Integer.MIN_VALUE * 3);
    Due.is("28: any number", town.voice(0, 0, Due.NONE), Due.NONE);
    Due.is("28: which is no error", town.told(2), 2);
    Due.is("29: of the latest alone", town.count(9), 1);
  }

  private static void sheet() {
    WhiffCoins town = new WhiffCoins();
    Due.is("30: sheet 4", town.sheet(4, 8, 1), Due.BEYOND);
    Due.is("30: sheet -1", town.sheet(-1, 8, -1), Due.BEYOND);
    Due.is("30: bits 7", town.sheet(0, 7, 1), Due.BEYOND);
    Due.is("30: bits 64", town.sheet(0, 64, -1), Due.BEYOND);
    Due.is("30: bits -8", town.sheet(0, -8, 1), Due.BEYOND);
    Due.is("30: n -1", town.sheet(0, 8, -1), Due.STATE);
    Due.is("30: n 41", town.sheet(0, 8, 41), Due.BEYOND);
    Due.is("30: is missing", town.judge(0), Due.NONE);
    Due.is("30: n 40", town.sheet(0, 16, 40), 1);
    Due.is("30: the last", town.put(0, 39, 1), 1);
    Due.is("30: no more", town.put(0, 40, 1), Due.BEYOND);
    Due.is("30: all 0 again", town.sheet(0, 8, 40), 1);
    Due.is("30: too many for no coins", town.judge(0), 0);
    Due.is("30: n 0", town.sheet(0, 32, 0), 1);
    Due.is("30: as no coins", town.judge(0), -1);
    Due.is("30: missing, any n", town.sheet(0, 0, -9), 1);
    Due.is("30: missing", town.judge(0), Due.NONE);
    Due.is("30: missing, any n", town.sheet(3, 0, 99), 1);
  }

  private static void put() {
    WhiffCoins town = Due.town(0);
    Due.is("31: sheet 4", town.put(4, 0, 0), Due.BEYOND);
    Due.is("31: sheet -1", town.put(-1, 0, 0), Due.BEYOND);
    Due.is("31: missing", town.put(0, 99, 0), Due.NONE);
    for (int bits = 8; bits <= 32; bits *= 2) {
      town.sheet(0, bits, 1);
      Due.is("31: number 1", town.put(0, 1, 0), Due.BEYOND);
      Due.is("31: number -1", town.put(0, -1, 0), Due.BEYOND);
      int[] high = {7, 256 + 7, 65536 + 7, 0x7fff0007};
      for (int v : high) {
        Due.is("31: put", town.put(0, 0, v), 1);
        boolean fits = bits == 32 ? v == 7 : v % (1 << bits) == 7;
        Due.is("31: lowest of " + bits, town.prices(0), fits ? 1 : 0);
      }
      town.put(0, 0, -1);
      Due.is("31: -1 by " + bits, town.prices(0), 0);
    }
  }

  /** The numbers of a SHEET, up to 6 of them, as PRICES of six TRADERS. */
  private static void pricesAre(WhiffCoins town, String what, int sheet, int... due) {
    for (int i = 0; i < 6; i++) {
      town.change(i, 1, 77);
    }
    Due.is(what, town.prices(sheet), due.length);
    for (int i = 0; i < 6; i++) {
      Due.is(what + ", " + i, town.ofTrader(i, 3), i < due.length ? due[i] : 77);
    }
  }

  private static void move() {
    WhiffCoins town = Due.town(0, 0, 0, 0, 0, 0);
    town.sheet(0, 8, 6);
    town.sheet(1, 8, 4);
    town.sheet(2, 16, 4);
    for (int i = 0; i < 6; i++) {
      town.put(0, i, i + 1);
    }
    Due.is("32: to another", town.move(0, 1, 1, 0, 3), 3);
    pricesAre(town, "32: to another", 1, 2, 3, 4, 0);
    Due.is("32: up", town.move(0, 0, 0, 1, 4), 4);
    pricesAre(town, "32: as they all were", 0, 1, 1, 2, 3, 4, 6);
    Due.is("32: down", town.move(0, 2, 0, 0, 4), 4);
    pricesAre(town, "32: as they all were", 0, 2, 3, 4, 6, 4, 6);
    Due.is("32: none", town.move(0, 6, 1, 4, 0), 0);
    int[][] wrong = {{0, 0, 1, 0, -1}, {0, -1, 1, 0, 1}, {0, 0, 1, -1, 1}, {0, 4, 1, 0, 3},
        {0, 0, 1, 2, 3}, {0, 7, 1, 0, 0}, {0, 0, 1, 5, 0}, {0, Integer.MAX_VALUE, 1, 0, 1},
        {0, 1, 1, 0, Integer.MAX_VALUE}, {0, 0, 1, Integer.MAX_VALUE, 2}};
    for (int[] w : wrong) {
      Due.is("32: wrong", town.move(w[0], w[1], w[2], w[3], w[4]), Due.BEYOND);
    }
    Due.is("32: sheet 4", town.move(4, 0, 3, 0, 0), Due.BEYOND);
    Due.is("32: other 4", town.move(3, 0, 4, 0, 0), Due.BEYOND);
    Due.is("32: missing", town.move(3, 0, 0, 0, -1), Due.NONE);
    Due.is("32: missing", town.move(0, 0, 3, 0, -1), Due.NONE);
    Due.is("32: unlike bits", town.move(0, 0, 2, 0, -1), Due.KIND);
    pricesAre(town, "32: nothing has come", 1, 2, 3, 4, 0);
  }

  private static void prices() {
    WhiffCoins town = Due.town(0, 0, 0);
    town.sheet(0, 32, 5);
    int[] numbers = {99, 0, 50, 1, 1};
    for (int i = 0; i < 5; i++) {
      town.put(0, i, numbers[i]);
    }
    Due.is("33: no more traders", town.prices(0), 3);
    Due.is("33: 99", town.ofTrader(0, 3), 99);
    Due.is("33: 0", town.ofTrader(1, 3), 0);
    town.put(0, 0, 5);
    town.put(0, 1, 100);
    town.put(0, 2, 5);
    Due.is("33: up to 100", town.prices(0), 1);
    Due.is("33: ahead of it", town.ofTrader(0, 3), 5);
    Due.is("33: that one", town.ofTrader(1, 3), 0);
    Due.is("33: behind it", town.ofTrader(2, 3), 50);
    town.put(0, 0, -1);
    Due.is("33: -1", town.prices(0), 0);
    town.sheet(0, 8, 1);
    Due.is("33: fewer than traders", town.prices(0), 1);
    town.sheet(0, 8, 0);
    Due.is("33: no numbers", town.prices(0), 0);
    Due.is("33: missing", town.prices(1), Due.NONE);
    Due.is("33: sheet 4", town.prices(4), Due.BEYOND);
    Due.is("33: sheet -1", town.prices(-1), Due.BEYOND);
  }

  private static void judge() {
    WhiffCoins town = Due.town(0, 0, 0);
    town.coin(1, 2);
    town.coin(1, 0);
    town.coin(1, 1);
    int[] numbers = {2, 0, 1, 0};
    for (int n = 0; n <= 4; n++) {
      town.sheet(1, 8, n);
      for (int i = 0; i < n; i++) {
        town.put(1, i, numbers[i]);
      }
      Due.is("34: " + n + " numbers", town.judge(1), n == 3 ? -1 : Math.min(n, 3));
    }
    town.sheet(1, 32, 3);
    Due.is("34: the first", town.judge(1), 0);
    town.put(1, 0, 2);
    Due.is("34: the last", town.judge(1), 2);
    Due.is("34: missing", town.judge(0), Due.NONE);
    Due.is("34: sheet 4", town.judge(4), Due.BEYOND);
    Due.is("34: sheet -1", town.judge(-1), Due.BEYOND);
  }

  private static void image() {
    WhiffCoins town = new WhiffCoins();
    Due.is("36: no image", town.restore(), Due.NONE);
    Due.is("35: of nothing", town.image(), 1);
    town.trader(0, 1);
    town.coin(1, 0);
    town.days(5);
    Due.is("36: nothing", town.restore(), 0);
    Due.is("36: no trader", town.count(0), 0);
    Due.is("36: no coin", town.count(1), 0);
    Due.is("36: NONE is still told", town.told(2), 1);
    town.trader(0, 4);
    town.days(2);
    Due.is("35: in place of the one ahead", town.image(), 2);
    town.days(1);
    Due.is("36: day", town.restore(), 2);
    Due.is("36: trader", town.ofTrader(0, 2), 4);
    town.days(1);
    Due.is("36: it stays", town.restore(), 2);
    Due.is("35: how often", town.image(), 3);
  }

  private static void imageOfAll() {
    WhiffCoins town = Due.town(12, 0);
    Due.coin(town, 5, 0, 123);
    Due.text(town, 0, "v+1");
    Due.text(town, 1, "v+2");
    Due.feed(town, "l");
    town.tell(3);
    town.change(0, 1, 5);
    town.change(0, 2, 6);
    town.sale(0, 0);
    town.sheet(0, 8, 1);
    town.voice(0, 0, 0);
    town.image();
    town.become(0, 25);
    town.change(0, 0, 7);
    town.change(0, 1, 0);
    town.change(0, 2, 8);
    town.change(1, 1, 0);
    town.trader(0, 1);
    town.coin(4, 2);
    town.sale(0, 1);
    town.fade(8);
    town.seed(9);
    town.days(1);
    Due.text(town, 0, "9");
    Due.text(town, 1, "9");
    Due.feed(town, "ddd");
    town.tell(4);
    town.sheet(0, 16, 2);
    town.voice(0, 3, 0);
    int failed = town.told(1);
    town.told(0);
    Due.is("36: day", town.restore(), 0);
    int[] trader = {1, 2, 1, 5, 6, 1};
    int[] coin = {5, 0, 3, 123};
    int[] all = {2, 1, 0, 0, 3, 5, 3, 1, 1, 5, 1};
    for (int what = 0; what < 6; what++) {
      Due.is("36: trader " + what, town.ofTrader(0, what), trader[what]);
    }
    for (int what = 0; what < 4; what++) {
      Due.is("36: coin " + what, town.ofCoin(0, what), coin[what]);
    }
    for (int what = 0; what < 11; what++) {
      Due.is("36: count " + what, town.count(what), all[what]);
    }
    Due.is("36: text", town.law(0, 1, 0, 0), 2);
    Due.is("36: toll", town.law(1, 1, 0, 0), 3);
    Due.is("36: told goes on", town.told(1), failed + 1);
    Due.is("36: the sheet is the new one", town.put(0, 1, 0), 1);
    Due.is("36: what waits", town.check(), 0);
    Due.is("36: the tape", town.text(0), 1);
    Due.is("36: the tape", town.law(0, 1, 7, 0), 7);
    town.restore();
    Due.is("36: the image has not changed", town.law(0, 1, 7, 0), 2);
    Due.is("36: the image has not changed", town.count(8), 1);
  }

  private static void tell() {
    WhiffCoins town = new WhiffCoins();
    for (int i = 1; i <= 20; i++) {
      Due.is("37: waits", town.tell(i == 1 ? Integer.MIN_VALUE : 0), i);
    }
    Due.is("37: 20 wait", town.tell(0), Due.FULL);
    Due.is("37: 20 wait", town.count(8), 20);
    Due.is("38: the first", town.check(), 1);
    Due.is("37: none wait", town.tell(5), 1);
  }

  private static void check() {
    WhiffCoins town = Due.town(0);
    Due.is("38: none wait", town.check(), 0);
    Due.coin(town, 1, 0, 12);
    Due.coin(town, 1, 0, 0);
    int[] due = {3, 4, 3, 4, 4, 2, 2};
    for (int wrong = 0; wrong <= due.length; wrong++) {
      for (int i = 0; i < due.length; i++) {
        town.tell(i == wrong ? due[i] + 1 : due[i]);
      }
      Due.is("38: wrong at " + wrong, town.check(), wrong == due.length ? 0 : wrong + 1);
      Due.is("38: none wait then", town.count(8), 0);
      Due.is("38: the day stays", town.count(2), 0);
      Due.is("38: the rows stay", town.count(6), 2);
    }
    town.tell(3);
    town.tell(0);
    town.tell(0);
    Due.is("38: the first of two", town.check(), 2);
  }

  private static void count() {
    WhiffCoins town = Due.town(0, 0);
    Due.coin(town, 7, 0, 12);
    Due.coin(town, 8, 1, 345);
    Due.coin(town, 9, 1, 0);
    town.sale(0, 1);
    town.fade(7);
    town.days(1);
    Due.feed(town, "abc");
    town.tell(0);
    town.tell(0);
    town.voice(0, 1, 0);
    town.seed(-44);
    int[] due = {2, 3, 1, 1, 7, 24, 3 + 3 + 1, 3, 2, 2, -44};
    for (int what = 0; what < due.length; what++) {
      Due.is("39: " + what, town.count(what), due[what]);
    }
    Due.is("39: 11", town.count(11), Due.BEYOND);
    Due.is("39: -1", town.count(-1), Due.BEYOND);
  }

  private static void told() {
    WhiffCoins town = Due.town(0);
    town.trace(0);
    town.home();
    town.restore();
    town.coin(1, 0);
    town.sale(0, 0);
    town.sheet(0, 8, -1);
    for (int i = 0; i < 7; i++) {
      town.feed(0, 8);
    }
    town.as(0, 4);
    int[] due = {0, 3, 2, 1, 1};
    for (int k = 1; k <= 5; k++) {
      Due.is("40: " + k, town.told(k), due[k - 1]);
    }
    Due.is("40: k 0", town.told(0), Due.BEYOND);
    Due.is("40: k 6", town.told(6), Due.BEYOND);
    Due.is("40: k -1", town.told(-1), Due.BEYOND);
    Due.is("40: counted, too", town.told(1), 3);
  }
}
