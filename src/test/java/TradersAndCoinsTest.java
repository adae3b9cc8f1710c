/** Promises 1 to 10. */
public final class TradersAndCoinsTest {
  public static void main(String[] args) {
    newObject();
    trader();
    ofTrader();
    change();
    become();
    as();
    coin();
    ofCoin();
    rub();
    fade();
    Due.end();
  }

  private static void newObject() {
    WhiffCoins town = new WhiffCoins();
    int[] first = {0, 0, 0, 0, 3, 0, 0, 0, 0, 0, 1};
    for (int what = 0; what < first.length; what++) {
      Due.is("1: count " + what, town.count(what), first[what]);
    }
    for (int k = 1; k <= 5; k++) {
      Due.is("1: told " + k, town.told(k), 0);
    }
    Due.is("1: no trader", town.ofTrader(0, 0), Due.BEYOND);
    Due.is("1: no coin", town.ofCoin(0, 0), Due.BEYOND);
    for (int sheet = 0; sheet < 4; sheet++) {
      Due.is("1: sheet is missing", town.judge(sheet), Due.NONE);
    }
    Due.is("1: no image", town.restore(), Due.NONE);
    Due.is("1: no trace", town.trace(0), Due.NONE);
    Due.is("1: no text", town.law(0, 1, 2, 3), 11);
    Due.is("1: no text", town.law(1, 1, 2, 3), 2);
    WhiffCoins other = new WhiffCoins();
    town.trader(0, 1);
    Due.is("1: objects share nothing", other.count(0), 0);
  }

  private static void trader() {
    WhiffCoins town = new WhiffCoins();
    Due.is("2: km -1", town.trader(-1, 1), Due.BEYOND);
    Due.is("2: km 70", town.trader(70, 1), Due.BEYOND);
    Due.is("2: ware 0", town.trader(0, 0), Due.BEYOND);
    Due.is("2: ware 8", town.trader(0, 8), Due.BEYOND);
    Due.is("2: km far", town.trader(Integer.MIN_VALUE, 1), Due.BEYOND);
    Due.is("2: none has come", town.count(0), 0);
    Due.is("2: first", town.trader(69, 7), 0);
    Due.is("2: kind", town.ofTrader(0, 0), 6);
    Due.is("2: m", town.ofTrader(0, 1), 9);
    for (int i = 1; i < 6; i++) {
      Due.is("2: next", town.trader(0, 1), i);
    }
    Due.is("2: seventh", town.trader(0, 1), Due.FULL);
    Due.is("2: seventh, km 70", town.trader(70, 1), Due.BEYOND);
    Due.is("2: seventh, ware 8", town.trader(0, 8), Due.BEYOND);
    Due.is("2: six", town.count(0), 6);
    Due.is("2: FULL is told", town.told(4), 1);
  }

  private static void ofTrader() {
    WhiffCoins town = Due.town(37, 0);
    int[] first = {3, 7, 1, 10, 2, 0};
    for (int what = 0; what < first.length; what++) {
      Due.is("3: of 0, " + what, town.ofTrader(0, what), first[what]);
    }
    Due.is("3: likes its ware", town.ofTrader(1, 4), 4);
    town.coin(1, 1);
    town.coin(1, 0);
    town.coin(1, 1);
    Due.is("3: coins", town.ofTrader(1, 5), 5);
    Due.is("3: coins", town.ofTrader(0, 5), 2);
    Due.is("3: what 6", town.ofTrader(0, 6), Due.BEYOND);
    Due.is("3: what -1", town.ofTrader(0, -1), Due.BEYOND);
    Due.is("3: trader 2", town.ofTrader(2, 0), Due.BEYOND);
    Due.is("3: trader -1", town.ofTrader(-1, 0), Due.BEYOND);
  }

  private static void change() {
    WhiffCoins town = Due.town(0, 0);
    Due.is("4: ware", town.change(0, 0, 7), 1);
    Due.is("4: ware", town.change(0, 0, 1), 7);
    Due.is("4: likes stay", town.ofTrader(0, 4), 2);
    Due.is("4: price", town.change(1, 1, 99), 10);
    Due.is("4: price", town.change(1, 1, 0), 99);
    Due.is("4: likes", town.change(1, 2, 254), 4);
    Due.is("4: likes", town.change(1, 2, 0), 254);
    Due.is("4: is changed", town.ofTrader(1, 4), 0);
    Due.is("4: the other isn't", town.ofTrader(0, 3), 10);
    int[][] wrong = {{0, 0, 0}, {0, 0, 8}, {0, 1, -1}, {0, 1, 100}, {0, 2, -2}, {0, 2, 1},
        {0, 2, 255}, {0, 2, 256}, {0, 3, 1}, {0, -1, 1}, {2, 0, 1}, {-1, 0, 1}};
    for (int[] w : wrong) {
      Due.is("4: wrong", town.change(w[0], w[1], w[2]), Due.BEYOND);
    }
    Due.is("4: nothing has changed", town.ofTrader(0, 2), 1);
    Due.is("4: nothing has changed", town.ofTrader(0, 3), 10);
    Due.is("4: nothing has changed", town.ofTrader(0, 4), 2);
  }

  private static void become() {
    WhiffCoins town = Due.town(12, 0);
    Due.is("5: becomes", town.become(0, 69), 1);
    Due.is("5: kind", town.ofTrader(0, 0), 6);
    Due.is("5: m", town.ofTrader(0, 1), 9);
    Due.is("5: ware stays", town.ofTrader(0, 2), 1);
    Due.is("5: km 70", town.become(0, 70), Due.BEYOND);
    Due.is("5: km -1", town.become(0, -1), Due.BEYOND);
    Due.is("5: trader 2", town.become(2, 0), Due.BEYOND);
    Due.is("5: becomes", town.become(0, 0), 6);
    Due.is("5: m", town.ofTrader(0, 1), 0);
  }

  private static void as() {
    int[][] under = {{0}, {0, 1}, {0, 2}, {0, 3}, {0, 1, 4}, {0, 2, 5}, {0, 3, 6}};
    for (int kind = 0; kind < 7; kind++) {
      WhiffCoins town = Due.town(10 * kind + 8);
      for (int wanted = 0; wanted < 7; wanted++) {
        int due = Due.KIND;
        for (int k : under[kind]) {
          due = k == wanted ? 8 : due;
        }
        Due.is("6: " + kind + " as " + wanted, town.as(0, wanted), due);
      }
      Due.is("6: KIND is told", town.told(5), 7 - under[kind].length);
    }
    WhiffCoins town = Due.town(0);
    Due.is("6: kind 7", town.as(0, 7), Due.BEYOND);
    Due.is("6: kind -1", town.as(0, -1), Due.BEYOND);
    Due.is("6: trader 1", town.as(1, 0), Due.BEYOND);
  }

  private static void coin() {
    WhiffCoins town = new WhiffCoins();
    Due.is("7: no trader", town.coin(1, 0), Due.BEYOND);
    town.trader(0, 1);
    Due.is("7: value 0", town.coin(0, 0), Due.BEYOND);
    Due.is("7: value 10", town.coin(10, 0), Due.BEYOND);
    Due.is("7: holder 1", town.coin(1, 1), Due.BEYOND);
    Due.is("7: holder -1", town.coin(1, -1), Due.BEYOND);
    for (int i = 0; i < 8; i++) {
      Due.is("7: next", town.coin(i + 2, 0), i);
    }
    Due.is("7: ninth", town.coin(1, 0), Due.FULL);
    Due.is("7: ninth, value 0", town.coin(0, 0), Due.BEYOND);
    Due.is("7: eight", town.count(1), 8);
    Due.is("7: values", town.count(5), 44);
  }

  private static void ofCoin() {
    WhiffCoins town = Due.town(0, 0);
    Due.coin(town, 7, 1, 0);
    Due.coin(town, 3, 0, 5);
    Due.coin(town, 3, 0, 51);
    Due.coin(town, 3, 0, 517);
    int[][] due = {{7, 1, 0, 0}, {3, 0, 1, 5}, {3, 0, 2, 51}, {3, 0, 3, 517}};
    for (int coin = 0; coin < 4; coin++) {
      for (int what = 0; what < 4; what++) {
        Due.is("8: of " + coin + ", " + what, town.ofCoin(coin, what), due[coin][what]);
      }
    }
    Due.is("8: what 4", town.ofCoin(0, 4), Due.BEYOND);
    Due.is("8: what -1", town.ofCoin(0, -1), Due.BEYOND);
    Due.is("8: coin 4", town.ofCoin(4, 0), Due.BEYOND);
    Due.is("8: coin -1", town.ofCoin(-1, 0), Due.BEYOND);
  }

  private static void rub() {
    WhiffCoins town = Due.town(0);
    town.coin(1, 0);
    for (int v = -5; v <= 1100; v++) {
      String digits = Integer.toString(v);
      boolean isRow = v == 0 || digits.matches("[1-7]{1,3}");
      int before = town.ofCoin(0, 3);
      int smells = v == 0 ? 0 : digits.length();
      Due.is("9: rub " + v, town.rub(0, v), isRow ? smells : Due.BEYOND);
      Due.is("9: row " + v, town.ofCoin(0, 3), isRow ? v : before);
    }
    Due.is("9: coin 1", town.rub(1, 1), Due.BEYOND);
    Due.is("9: coin -1", town.rub(-1, 1), Due.BEYOND);
  }

  private static void fade() {
    WhiffCoins town = new WhiffCoins();
    Due.is("10: fade 9", town.fade(9), 3);
    Due.is("10: fade 10", town.fade(10), Due.BEYOND);
    Due.is("10: fade 0", town.fade(0), Due.BEYOND);
    Due.is("10: fade 1", town.fade(1), 9);
    Due.is("10: is 1", town.count(4), 1);
  }
}
