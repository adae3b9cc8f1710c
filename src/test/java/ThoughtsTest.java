/** Promises 18 to 26. */
public final class ThoughtsTest {
  public static void main(String[] args) {
    worst();
    pays();
    launder();
    launderOfSeveral();
    hands();
    round();
    home();
    outcasts();
    takers();
    tolls();
    onlyThought();
    Due.end();
  }

  private static void worst() {
    WhiffCoins town = Due.town(0, 0, 0);
    Due.coin(town, 5, 0, 0);
    Due.coin(town, 1, 1, 0);
    Due.coin(town, 3, 0, 3);
    Due.coin(town, 3, 0, 4);
    Due.coin(town, 2, 0, 111);
    Due.is("18: of two the least number", town.worst(0, 1), 2);
    Due.is("18: coin 4 is the least to the other alone", town.worth(4, 1), 14);
    town.rub(2, 1);
    Due.is("18: the least", town.worst(0, 1), 3);
    town.change(1, 1, 28);
    Due.is("18: of those that are taken", town.worst(0, 1), 0);
    town.change(1, 1, 27);
    Due.is("18: just its price", town.worst(0, 1), 3);
    town.change(0, 1, 99);
    Due.is("18: the first one's price does not matter", town.worst(0, 1), 3);
    town.change(1, 1, 51);
    Due.is("18: nothing is taken", town.worst(0, 1), Due.NONE);
    WhiffCoins plain = Due.town(0, 0);
    Due.coin(plain, 2, 0, 0);
    Due.coin(plain, 4, 0, 0);
    Due.coin(plain, 3, 0, 0);
    Due.is("18: coin 0", plain.worst(0, 1), 0);
    Due.is("18: has no coins", town.worst(2, 0), Due.NONE);
    Due.is("18: one and the same", town.worst(0, 0), Due.BEYOND);
    Due.is("18: trader 3", town.worst(3, 0), Due.BEYOND);
    Due.is("18: other 3", town.worst(0, 3), Due.BEYOND);
    Due.is("18: trader -1", town.worst(-1, 0), Due.BEYOND);
    Due.is("18: other -1", town.worst(0, -1), Due.BEYOND);
  }

  private static void pays() {
    WhiffCoins town = Due.town(0, 0, 50);
    int[] values = {3, 4, 2, 5, 9};
    for (int coin = 0; coin < 5; coin++) {
      Due.coin(town, values[coin], coin == 4 ? 1 : 0, 0);
    }
    Due.is("19: the least of one", town.pays(0, 1, 20), 1);
    Due.is("19: one", town.pays(0, 1, 41), 8);
    Due.is("19: of several pairs the least", town.pays(0, 1, 70), 3);
    Due.is("19: of several pairs the least", town.pays(0, 1, 75), 9);
    Due.is("19: a pair", town.pays(0, 1, 90), 10);
    Due.is("19: three", town.pays(0, 1, 91), 11);
    Due.is("19: all", town.pays(0, 1, 140), 15);
    Due.is("19: not with all", town.pays(0, 1, 141), Due.NONE);
    town.change(1, 1, 99);
    Due.is("19: price does not matter", town.pays(0, 1, 140), 15);
    Due.is("19: to the church", town.pays(1, 2, 90), 16);
    Due.is("19: has none", town.pays(2, 1, 1), Due.NONE);
    Due.is("19: sum 0", town.pays(0, 1, 0), Due.BEYOND);
    Due.is("19: sum 1000", town.pays(0, 1, 1000), Due.BEYOND);
    Due.is("19: sum 999", town.pays(0, 1, 999), Due.NONE);
    Due.is("19: sum 1", town.pays(0, 1, 1), 1);
    Due.is("19: one and the same", town.pays(0, 0, 1), Due.BEYOND);
    Due.is("19: trader 3", town.pays(3, 0, 1), Due.BEYOND);
    Due.is("19: other 3", town.pays(0, 3, 1), Due.BEYOND);
    Due.text(town, 0, "v-3");
    Due.is("19: each above 0", town.pays(0, 1, 1), 2);
    Due.is("19: each above 0", town.pays(0, 1, 3), 10);
    Due.is("19: those below 0 take nothing away", town.pays(0, 1, 4), Due.NONE);
  }

  private static void launder() {
    WhiffCoins town = Due.town(0, 0, 20, 50);
    int coin = Due.coin(town, 9, 0, 77);
    Due.is("20: as it is", town.launder(coin, 77, -1), 0);
    Due.is("20: as it is", town.launder(coin, 77, 0), -1);
    Due.is("20: one", town.launder(coin, 277, -1), 1);
    Due.is("20: one", town.launder(coin, 277, 0), 1);
    Due.is("20: one", town.launder(coin, 277, 1), -1);
    Due.is("20: one", town.launder(coin, 277, 2), -1);
    Due.is("20: the perfumer", town.launder(coin, 3, 0), 2);
    Due.is("20: the church", town.launder(coin, 0, 0), 3);
    Due.is("20: two", town.launder(coin, 127, -1), 2);
    Due.is("20: two", town.launder(coin, 127, 0), 1);
    Due.is("20: two", town.launder(coin, 127, 1), 0);
    Due.is("20: three", town.launder(coin, 212, -1), 3);
    Due.is("20: three", town.launder(coin, 212, 2), 1);
    Due.is("20: four would do", town.launder(coin, 121, -1), Due.NONE);
    Due.is("20: not back to the holder at once", town.launder(coin, 177, -1), Due.NONE);
    Due.is("20: nothing to be had", town.launder(coin, 5, -1), Due.NONE);
    Due.is("20: nothing to be had", town.launder(coin, 5, 2), Due.NONE);
    town.change(1, 1, 99);
    Due.is("20: refused", town.launder(coin, 277, -1), Due.NONE);
    Due.is("20: coin 1", town.launder(1, 0, -1), Due.BEYOND);
    Due.is("20: row 8", town.launder(coin, 8, -1), Due.BEYOND);
    Due.is("20: row 10", town.launder(coin, 10, -1), Due.BEYOND);
    Due.is("20: row 778", town.launder(coin, 778, -1), Due.BEYOND);
    Due.is("20: row -1", town.launder(coin, -1, -1), Due.BEYOND);
    Due.is("20: what 3", town.launder(coin, 0, 3), Due.BEYOND);
    Due.is("20: what -2", town.launder(coin, 0, -2), Due.BEYOND);
  }

  private static void launderOfSeveral() {
    WhiffCoins town = Due.town(0, 0, 0, 0);
    town.change(2, 0, 2);
    town.change(3, 0, 2);
    int coin = Due.coin(town, 9, 3, 0);
    Due.is("20: the first of two", town.launder(coin, 2, 0), 1);
    Due.is("20: two", town.launder(coin, 22, -1), 2);
    Due.is("20: two, the first", town.launder(coin, 22, 0), 1);
    Due.is("20: two, the first", town.launder(coin, 22, 1), 2);
    int[] due = {1, 0, 1};
    for (int what = 0; what < 3; what++) {
      Due.is("20: three, the first " + what, town.launder(coin, 212, what), due[what]);
    }
    town.change(1, 1, 95);
    due = new int[] {2, 0, 2};
    for (int what = 0; what < 3; what++) {
      Due.is("20: three, 1 refuses " + what, town.launder(coin, 212, what), due[what]);
    }
  }

  private static void hands() {
    WhiffCoins town = Due.town(0, 0, 20, 50);
    town.change(3, 0, 1);
    town.change(0, 1, 99);
    int[] rows = {0, 1, 11, 111, 121, 333, 4, 213};
    int[] ways = {1, 2, 2, 2, 4, 0, 0, 2};
    int[][] first = {{}, {0}, {0, 3}, {0, 3, 0}, {0, 1, 0}, {}, {}, {1, 0, 2}};
    for (int i = 0; i < rows.length; i++) {
      int coin = Due.coin(town, 1, 1, rows[i]);
      Due.is("21: ways of " + rows[i], town.hands(coin, -1), ways[i]);
      for (int what = 0; what < 3; what++) {
        int due = what < first[i].length ? first[i][what] : Due.NONE;
        Due.is("21: hand " + what + " of " + rows[i], town.hands(coin, what), due);
      }
    }
    Due.is("21: NONE is told", town.told(2), 3 + 2 + 1 + 3 + 3);
    Due.is("21: coin 8", town.hands(8, -1), Due.BEYOND);
    Due.is("21: coin -1", town.hands(-1, -1), Due.BEYOND);
    Due.is("21: what 3", town.hands(0, 3), Due.BEYOND);
    Due.is("21: what -2", town.hands(0, -2), Due.BEYOND);
  }

  private static void round() {
    WhiffCoins town = Due.town(0, 0, 0);
    likeNothing(town);
    int coin = Due.coin(town, 3, 1, 0);
    town.change(0, 1, 27);
    town.change(1, 1, 99);
    town.change(2, 1, 30);
    Due.is("22: to 2, to 0", town.round(coin), 2);
    town.change(2, 1, 31);
    Due.is("22: to 0 alone", town.round(coin), 1);
    town.change(0, 1, 31);
    Due.is("22: nobody", town.round(coin), 0);
    WhiffCoins church = Due.town(50, 50);
    church.coin(1, 0);
    Due.is("22: to and fro", church.round(0), 100);
    WhiffCoins alone = Due.town(0);
    alone.coin(9, 0);
    Due.is("22: alone", alone.round(0), 0);
    WhiffCoins next = Due.town(0, 0, 0, 0);
    likeNothing(next);
    next.coin(9, 2);
    next.change(2, 1, 99);
    next.change(3, 1, 99);
    next.change(0, 1, 90);
    next.change(1, 1, 90);
    Due.is("22: the next ahead of the others", next.round(0), 1);
    next.change(1, 1, 87);
    Due.is("22: and on from there", next.round(0), 2);
    Due.is("22: coin 1", next.round(1), Due.BEYOND);
    Due.is("22: coin -1", next.round(-1), Due.BEYOND);
  }

  private static void likeNothing(WhiffCoins town) {
    for (int trader = 0; trader < town.count(0); trader++) {
      town.change(trader, 2, 0);
    }
  }

  private static void home() {
    WhiffCoins town = Due.town(0, 0);
    Due.is("23: no coin", town.home(), Due.NONE);
    Due.coin(town, 9, 0, 0);
    Due.coin(town, 1, 1, 0);
    Due.is("23: none smells", town.home(), Due.NONE);
    town.rub(0, 7);
    Due.is("23: one", town.home(), 7);
    town.rub(1, 3);
    Due.is("23: of several the least", town.home(), 3);
    town.rub(0, 764);
    Due.is("23: the latest is strongest", town.home(), 3);
    town.rub(1, 0);
    Due.is("23: the latest is strongest", town.home(), 7);
    town.rub(0, 122);
    Due.is("23: 3 and 2 and 1", town.home(), 1);
    Due.coin(town, 1, 0, 772);
    Due.is("23: in all rows", town.home(), 7);
    town.rub(2, 672);
    Due.is("23: in all rows", town.home(), 2);
  }

  private static void outcasts() {
    WhiffCoins town = Due.town(0, 0, 0);
    Due.is("24: no coins", town.outcasts(), 0);
    int[] values = {1, 5, 3, 9};
    for (int coin = 0; coin < 4; coin++) {
      Due.coin(town, values[coin], coin % 2, 0);
    }
    Due.is("24: all are taken", town.outcasts(), 0);
    town.change(1, 1, 50);
    town.change(2, 1, 99);
    Due.is("24: the holder does not count", town.outcasts(), 5);
    town.change(0, 1, 51);
    Due.is("24: one's own price", town.outcasts(), 7);
    town.change(2, 1, 30);
    Due.is("24: 2 takes 30", town.outcasts(), 1);
    WhiffCoins alone = Due.town(0);
    alone.coin(9, 0);
    Due.is("24: nobody else", alone.outcasts(), 1);
  }

  private static void takers() {
    WhiffCoins town = Due.town(0, 0, 50, 0);
    Due.coin(town, 2, 0, 2);
    Due.coin(town, 2, 0, 0);
    town.change(1, 1, 26);
    town.change(2, 1, 20);
    town.change(3, 1, 20);
    town.change(0, 1, 0);
    Due.is("25: now", town.takers(0, 0), 6);
    Due.is("25: of the other, now", town.takers(1, 0), 12);
    Due.is("25: of the other, by mingling", town.takers(1, 1), 6);
    Due.is("25: two days", town.takers(0, 2), 6);
    Due.is("25: faded", town.takers(0, 3), 12);
    Due.is("25: faded", town.takers(0, 100), 12);
    Due.is("25: n 101", town.takers(0, 101), Due.BEYOND);
    Due.is("25: n -1", town.takers(0, -1), Due.BEYOND);
    Due.is("25: coin 2", town.takers(2, 0), Due.BEYOND);
    Due.is("25: coin -1", town.takers(-1, 0), Due.BEYOND);
  }

  private static void tolls() {
    WhiffCoins town = Due.town(0, 0);
    Due.coin(town, 2, 0, 12);
    Due.coin(town, 3, 1, 777);
    Due.coin(town, 4, 0, 0);
    Due.is("26: none", town.tolls(0, 0), 0);
    Due.is("26: ahead of the day's going by", town.tolls(0, 1), 2);
    Due.is("26: two", town.tolls(0, 2), 2 + 3);
    Due.is("26: three", town.tolls(0, 3), 2 + 3 + 4);
    Due.is("26: faded", town.tolls(0, 4), 2 + 3 + 4 + 3);
    Due.is("26: the other", town.tolls(1, 10), 9 + 6 + 3);
    town.days(2);
    Due.text(town, 1, "v*100+t");
    Due.is("26: held for each coin", town.tolls(0, 2), 4 * 99);
    Due.text(town, 1, "t*2+v");
    Due.is("26: by day", town.tolls(0, 3), 6 + 8 + 8 + 10 + 10 + 12);
    town.rub(0, 123);
    town.rub(2, 0);
    Due.text(town, 1, "k-2");
    Due.is("26: not below 0", town.tolls(0, 1), 1);
    Due.is("26: n 101", town.tolls(0, 101), Due.BEYOND);
    Due.is("26: n -1", town.tolls(0, -1), Due.BEYOND);
    Due.is("26: trader 2", town.tolls(2, 0), Due.BEYOND);
    Due.is("26: trader -1", town.tolls(-1, 0), Due.BEYOND);
  }

  private static void onlyThought() {
    WhiffCoins town = Due.town(0, 20, 50);
    Due.coin(town, 9, 0, 123);
    Due.coin(town, 9, 0, 4);
    for (int i = 0; i < 99; i++) {
      town.days(100);
    }
    town.days(99);
    town.rub(0, 123);
    town.rub(1, 4);
    Due.is("25: beyond 9999", town.takers(1, 100), 6);
    town.fade(5);
    Due.text(town, 1, "t-9950");
    Due.is("26: beyond 9999", town.tolls(0, 3), 2 * (49 + 50 + 51));
    Due.text(town, 1, "k");
    Due.is("26: fades at 10000", town.tolls(0, 2), 4 + 3);
    town.launder(0, 0, 0);
    town.launder(0, 555, 0);
    town.round(0);
    town.hands(0, -1);
    town.pays(0, 1, 100);
    town.worst(0, 1);
    Due.is("20: thought leaves the row", town.ofCoin(0, 3), 123);
    Due.is("20: thought leaves the holder", town.ofCoin(0, 1), 0);
    Due.is("20: thought leaves the sales", town.count(3), 0);
    Due.is("25: thought leaves the day", town.count(2), 9999);
    Due.is("25: thought leaves the rows", town.count(6), 4);
  }
}
