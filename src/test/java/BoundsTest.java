/** Each argument that the document bounds: the least, the most, and what lies beyond. */
public final class BoundsTest {
  private interface Act {
    int on(WhiffCoins town, int v);
  }

  public static void main(String[] args) {
    arguments();
    argumentsOfThoughts();
    argumentsOfSheets();
    likes();
    onNewObject();
    Due.end();
  }

  /** Three TRADERS, three COINS, SHEETS 0 and 1 of 5 numbers. */
  private static WhiffCoins small() {
    WhiffCoins town = Due.town(3, 14, 25);
    for (int coin = 0; coin < 3; coin++) {
      Due.coin(town, coin + 1, coin, 123);
    }
    town.sheet(0, 8, 5);
    town.sheet(1, 8, 5);
    return town;
  }

  /** BEYOND for all numbers but those from the least to the most. */
  private static void within(String what, int least, int most, Act act) {
    int[] wrong = {least - 1, most + 1, Integer.MIN_VALUE, Integer.MAX_VALUE};
    for (int v : wrong) {
      Due.is(what + " " + v, act.on(small(), v), Due.BEYOND);
    }
    for (int v : new int[] {least, most}) {
      boolean isTaken = act.on(small(), v) != Due.BEYOND;
      Due.is(what + " " + v + " is not BEYOND", isTaken ? 1 : 0, 1);
    }
  }

  private static void arguments() {
    within("2: km", 0, 69, (t, v) -> t.trader(v, 1));
    within("2: ware", 1, 7, (t, v) -> t.trader(0, v));
    within("3: trader", 0, 2, (t, v) -> t.ofTrader(v, 0));
    within("3: what", 0, 5, (t, v) -> t.ofTrader(0, v));
    within("4: trader", 0, 2, (t, v) -> t.change(v, 0, 1));
    within("4: what", 0, 2, (t, v) -> t.change(0, v, 2));
    within("4: ware", 1, 7, (t, v) -> t.change(0, 0, v));
    within("4: price", 0, 99, (t, v) -> t.change(0, 1, v));
    within("4: likes", 0, 254, (t, v) -> t.change(0, 2, v));
    within("5: trader", 0, 2, (t, v) -> t.become(v, 0));
    within("5: km", 0, 69, (t, v) -> t.become(0, v));
    within("6: trader", 0, 2, (t, v) -> t.as(v, 0));
    within("6: kind", 0, 6, (t, v) -> t.as(0, v));
    within("7: value", 1, 9, (t, v) -> t.coin(v, 0));
    within("7: holder", 0, 2, (t, v) -> t.coin(1, v));
    within("8: coin", 0, 2, (t, v) -> t.ofCoin(v, 0));
    within("8: what", 0, 3, (t, v) -> t.ofCoin(0, v));
    within("9: coin", 0, 2, (t, v) -> t.rub(v, 0));
    within("9: row", 0, 777, (t, v) -> t.rub(0, v));
    within("10: fade", 1, 9, (t, v) -> t.fade(v));
    within("11: n", 1, 8, (t, v) -> t.feed(0, v));
    within("12: use", 0, 1, (t, v) -> t.text(v));
    within("13: use", 0, 1, (t, v) -> t.law(v, 0, 0, 0));
    within("14: coin", 0, 2, (t, v) -> t.worth(v, 0));
    within("14: trader", 0, 2, (t, v) -> t.worth(0, v));
    within("15: coin", 0, 2, (t, v) -> t.sale(v, 0));
    within("15: trader", 0, 2, (t, v) -> t.sale(0, v));
    within("16: n", 1, 100, (t, v) -> t.days(v));
    within("17: n", 1, 40, (t, v) -> t.loose(v));
  }

  private static void argumentsOfThoughts() {
    within("18: trader", 0, 1, (t, v) -> t.worst(v, 2));
    within("18: other", 1, 2, (t, v) -> t.worst(0, v));
    within("19: trader", 0, 1, (t, v) -> t.pays(v, 2, 1));
    within("19: other", 1, 2, (t, v) -> t.pays(0, v, 1));
    within("19: sum", 1, 999, (t, v) -> t.pays(0, 1, v));
    within("20: coin", 0, 2, (t, v) -> t.launder(v, 0, 0));
    within("20: row", 0, 777, (t, v) -> t.launder(0, v, 0));
    within("20: what", -1, 2, (t, v) -> t.launder(0, 123, v));
    within("21: coin", 0, 2, (t, v) -> t.hands(v, 0));
    within("21: what", -1, 2, (t, v) -> t.hands(0, v));
    within("22: coin", 0, 2, (t, v) -> t.round(v));
    within("25: coin", 0, 2, (t, v) -> t.takers(v, 0));
    within("25: n", 0, 100, (t, v) -> t.takers(0, v));
    within("26: trader", 0, 2, (t, v) -> t.tolls(v, 0));
    within("26: n", 0, 100, (t, v) -> t.tolls(0, v));
    within("28: trader", 0, 2, (t, v) -> t.voice(v, 0, 0));
    within("28: act", 0, 3, (t, v) -> t.voice(0, v, 0));
  }

  private static void argumentsOfSheets() {
    within("30: sheet", 0, 3, (t, v) -> t.sheet(v, 8, 1));
    within("30: sheet", 0, 3, (t, v) -> t.sheet(v, 0, 1));
    within("31: sheet", 0, 3, (t, v) -> t.put(v, 0, 0));
    within("31: number", 0, 4, (t, v) -> t.put(0, v, 0));
    within("32: sheet", 0, 3, (t, v) -> t.move(v, 0, 0, 0, 1));
    within("32: other", 0, 3, (t, v) -> t.move(0, 0, v, 0, 1));
    within("32: i", 0, 3, (t, v) -> t.move(0, v, 1, 0, 2));
    within("32: i of none", 0, 5, (t, v) -> t.move(0, v, 1, 0, 0));
    within("32: j", 0, 3, (t, v) -> t.move(0, 0, 1, v, 2));
    within("32: j of none", 0, 5, (t, v) -> t.move(0, 0, 1, v, 0));
    within("32: n", 0, 5, (t, v) -> t.move(0, 0, 1, 0, v));
    within("32: n from 2", 0, 3, (t, v) -> t.move(0, 2, 1, 0, v));
    within("32: n to 2", 0, 3, (t, v) -> t.move(0, 0, 1, 2, v));
    within("33: sheet", 0, 3, (t, v) -> t.prices(v));
    within("34: sheet", 0, 3, (t, v) -> t.judge(v));
    within("39: what", 0, 10, (t, v) -> t.count(v));
    within("40: k", 1, 5, (t, v) -> t.told(v));
    for (int bits = -1; bits <= 65; bits++) {
      boolean isWidth = bits == 0 || bits == 8 || bits == 16 || bits == 32;
      Due.is("30: bits " + bits, small().sheet(0, bits, 1), isWidth ? 1 : Due.BEYOND);
    }
    for (int n : new int[] {0, 1, 39, 40, 41, Integer.MAX_VALUE, -1, Integer.MIN_VALUE}) {
      int due = n < 0 ? Due.STATE : n > 40 ? Due.BEYOND : 1;
      Due.is("30: n " + n, small().sheet(0, 32, n), due);
      Due.is("30: missing, n " + n, small().sheet(0, 0, n), 1);
    }
  }

  private static void likes() {
    WhiffCoins town = Due.town(0);
    int before = 2;
    for (int v = -3; v <= 260; v++) {
      boolean isSet = v >= 0 && v <= 254 && v % 2 == 0;
      Due.is("4: likes " + v, town.change(0, 2, v), isSet ? before : Due.BEYOND);
      before = isSet ? v : before;
    }
    for (int ware = 1; ware <= 7; ware++) {
      WhiffCoins other = new WhiffCoins();
      other.trader(0, ware);
      Due.is("2: likes its WARE alone", other.ofTrader(0, 4), 1 << ware);
    }
  }

  /** No TRADERS, no COINS, an empty TAPE: each act answers. */
  private static void onNewObject() {
    Due.is("12: an empty TAPE", new WhiffCoins().text(0), -10);
    Due.is("12: an empty TAPE", new WhiffCoins().text(1), -10);
    Due.is("16: no COINS", new WhiffCoins().days(100), 0);
    Due.is("17: no COINS", new WhiffCoins().loose(40), 0);
    Due.is("18: no TRADERS", new WhiffCoins().worst(0, 1), Due.BEYOND);
    Due.is("19: no TRADERS", new WhiffCoins().pays(0, 1, 1), Due.BEYOND);
    Due.is("20: no COINS", new WhiffCoins().launder(0, 0, -1), Due.BEYOND);
    Due.is("21: no COINS", new WhiffCoins().hands(0, -1), Due.BEYOND);
    Due.is("22: no COINS", new WhiffCoins().round(0), Due.BEYOND);
    Due.is("23: no COINS", new WhiffCoins().home(), Due.NONE);
    Due.is("24: no COINS", new WhiffCoins().outcasts(), 0);
    Due.is("25: no COINS", new WhiffCoins().takers(0, 0), Due.BEYOND);
    Due.is("26: no TRADERS", new WhiffCoins().tolls(0, 0), Due.BEYOND);
    Due.is("27: z is 1", new WhiffCoins().seed(0), 1);
    Due.is("31: missing", new WhiffCoins().put(0, 0, 0), Due.NONE);
    Due.is("33: missing", new WhiffCoins().prices(3), Due.NONE);
    Due.is("35: an IMAGE of nothing", new WhiffCoins().image(), 1);
    Due.is("38: none wait", new WhiffCoins().check(), 0);
    WhiffCoins town = new WhiffCoins();
    Due.is("33: no TRADERS", town.sheet(0, 8, 3) + town.prices(0), 1);
    Due.is("34: no COINS, no numbers", town.sheet(0, 8, 0) + town.judge(0), 0);
  }
}
