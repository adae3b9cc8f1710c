/** Promises 14 to 17. */
public final class TradeTest {
  public static void main(String[] args) {
    worth();
    worthByText();
    sale();
    smellAfterSale();
    days();
    daysFade();
    daysAtTheEnd();
    loose();
    looseByDraws();
    Due.end();
  }

  /** TRADERS of all KINDS but one, which all like 1 and 3. */
  private static WhiffCoins noses(int first) {
    WhiffCoins town = Due.town(first, 14, 25, 36, 47, 58);
    for (int trader = 0; trader < 6; trader++) {
      town.change(trader, 2, 10);
    }
    return town;
  }

  private static void worth() {
    WhiffCoins town = noses(3);
    int coin = Due.coin(town, 2, 0, 123);
    int[] due = {26, 28, 29, 32, 35, 20};
    for (int trader = 0; trader < 6; trader++) {
      Due.is("14: worth to " + trader, town.worth(coin, trader), due[trader]);
    }
    town.become(0, 69);
    Due.is("14: to a clerk", town.worth(coin, 0), 32);
    town.rub(coin, 213);
    Due.is("14: to a clerk, latest not liked", town.worth(coin, 0), 14);
    Due.is("14: to a tanner", town.worth(coin, 1), 26);
    town.rub(coin, 21);
    int[] two = {14, 24, 23, 22, 31, 20};
    for (int trader = 0; trader < 6; trader++) {
      Due.is("14: two smells to " + trader, town.worth(coin, trader), two[trader]);
    }
    town.rub(coin, 0);
    int[] none = {20, 20, 20, 20, 27, 20};
    for (int trader = 0; trader < 6; trader++) {
      Due.is("14: no smell to " + trader, town.worth(coin, trader), none[trader]);
    }
    Due.is("14: coin 1", town.worth(1, 0), Due.BEYOND);
    Due.is("14: coin -1", town.worth(-1, 0), Due.BEYOND);
    Due.is("14: trader 6", town.worth(0, 6), Due.BEYOND);
    Due.is("14: trader -1", town.worth(0, -1), Due.BEYOND);
  }

  private static void worthByText() {
    WhiffCoins town = noses(0);
    int coin = Due.coin(town, 9, 0, 123);
    Due.text(town, 0, "v*100+l");
    int[] held = {99, 99, 102, 99, 106, 90};
    for (int trader = 0; trader < 6; trader++) {
      Due.is("14: held, to " + trader, town.worth(coin, trader), held[trader]);
    }
    Due.text(town, 0, "l*10+d");
    int[] due = {42, 40, 45, 84, 47, 90};
    for (int trader = 0; trader < 6; trader++) {
      Due.is("14: by text, to " + trader, town.worth(coin, trader), due[trader]);
    }
    town.become(0, 60);
    Due.is("14: by text, to a clerk", town.worth(coin, 0), 60);
    town.rub(coin, 2);
    Due.is("14: by text, to a clerk", town.worth(coin, 0), 6);
  }

  private static void sale() {
    WhiffCoins town = Due.town(0, 0, 0);
    int coin = Due.coin(town, 3, 0, 0);
    town.change(1, 1, 30);
    town.change(2, 1, 32);
    Due.is("15: holds it", town.sale(coin, 0), Due.STATE);
    Due.is("15: refused", town.sale(coin, 2), 0);
    Due.is("15: refused, holder", town.ofCoin(coin, 1), 0);
    Due.is("15: refused, row", town.ofCoin(coin, 3), 0);
    Due.is("15: refused, sales", town.count(3), 0);
    Due.is("15: just its price", town.sale(coin, 1), 1);
    Due.is("15: holder", town.ofCoin(coin, 1), 1);
    Due.is("15: row", town.ofCoin(coin, 3), 2);
    Due.is("15: sales", town.count(3), 1);
    Due.is("15: coin 1", town.sale(1, 0), Due.BEYOND);
    Due.is("15: trader 3", town.sale(0, 3), Due.BEYOND);
    Due.is("15: trader -1", town.sale(0, -1), Due.BEYOND);
    Due.is("15: worth 27", town.worth(coin, 2), 27);
    town.change(2, 1, 27);
    Due.is("15: worth its price to it", town.sale(coin, 2), 1);
    Due.is("15: sales", town.count(3), 2);
  }

  private static void smellAfterSale() {
    int[] rows = {0, 7, 76, 765};
    int[] fresh = {1, 17, 176, 176};
    for (int kind = 0; kind < 7; kind++) {
      for (int i = 0; i < rows.length; i++) {
        WhiffCoins town = Due.town(10 * kind, 0);
        town.change(0, 1, 0);
        int coin = Due.coin(town, 9, 1, rows[i]);
        Due.is("15: sold to " + kind, town.sale(coin, 0), 1);
        int due = kind == 5 ? 0 : kind == 2 ? 1 : fresh[i];
        Due.is("15: smells by " + kind, town.ofCoin(coin, 3), due);
      }
    }
  }

  private static void days() {
    WhiffCoins town = Due.town(0, 0);
    town.fade(9);
    Due.coin(town, 1, 1, 0);
    Due.coin(town, 1, 0, 12);
    Due.coin(town, 1, 0, 0);
    Due.coin(town, 1, 1, 3);
    Due.coin(town, 1, 0, 456);
    Due.coin(town, 1, 0, 45);
    Due.is("16: a day", town.days(1), 2 + 1 + 1 + 3 + 3);
    int[] due = {0, 12, 1, 3, 456, 451};
    for (int coin = 0; coin < 6; coin++) {
      Due.is("16: row of " + coin, town.ofCoin(coin, 3), due[coin]);
    }
    Due.is("16: day", town.count(2), 1);
    Due.is("16: two more", town.days(2), 2 + 3 + 1 + 3 + 3);
    Due.is("16: row of 2", town.ofCoin(2, 3), 111);
    Due.is("16: day", town.count(2), 3);
    Due.is("16: n 0", town.days(0), Due.BEYOND);
    Due.is("16: n 101", town.days(101), Due.BEYOND);
    Due.is("16: n -1", town.days(-1), Due.BEYOND);
    Due.is("16: n 100", town.days(100), 0);
    Due.is("16: day", town.count(2), 103);
  }

  private static void daysFade() {
    WhiffCoins town = Due.town(0, 0);
    Due.coin(town, 1, 0, 123);
    Due.coin(town, 1, 1, 4);
    Due.is("16: not yet", town.days(2), 4);
    Due.is("16: the third fades", town.days(1), 2);
    Due.is("16: the oldest goes", town.ofCoin(0, 3), 12);
    Due.is("16: the only one goes", town.ofCoin(1, 3), 0);
    town.fade(1);
    Due.is("16: each day fades", town.days(1), 1);
    Due.is("16: the latest stays", town.ofCoin(0, 3), 1);
    Due.is("16: each day fades", town.days(1), 0);
    WhiffCoins mingled = Due.town(0);
    Due.coin(mingled, 1, 0, 5);
    Due.coin(mingled, 1, 0, 0);
    mingled.fade(1);
    Due.is("16: mingles, then fades", mingled.days(1), 0);
    WhiffCoins latest = Due.town(0, 0);
    Due.coin(latest, 1, 0, 71);
    Due.coin(latest, 1, 0, 0);
    Due.coin(latest, 1, 1, 621);
    Due.coin(latest, 1, 1, 3);
    latest.days(1);
    Due.is("16: the latest of two mingles", latest.ofCoin(1, 3), 7);
    Due.is("16: the latest of three mingles", latest.ofCoin(3, 3), 36);
    WhiffCoins odd = Due.town(0);
    Due.coin(odd, 1, 0, 77);
    odd.days(1);
    odd.fade(2);
    Due.is("16: day 2 by fade 2", odd.days(1), 1);
  }

  private static void daysAtTheEnd() {
    WhiffCoins town = new WhiffCoins();
    for (int i = 0; i < 99; i++) {
      Due.is("16: 100 days", town.days(100), 0);
    }
    Due.is("16: one too many", town.days(100), Due.STATE);
    Due.is("17: one too many", town.days(70), 0);
    Due.is("17: one too many", town.loose(30), Due.STATE);
    Due.is("17: n 41 ahead of STATE", town.loose(41), Due.BEYOND);
    Due.is("16: n 101 ahead of STATE", town.days(101), Due.BEYOND);
    Due.is("16: day stands", town.count(2), 9970);
    Due.is("17: to the last", town.loose(29), 0);
    Due.is("16: day", town.count(2), 9999);
    Due.is("16: no day more", town.days(1), Due.STATE);
    Due.is("17: no day more", town.loose(1), Due.STATE);
    Due.is("16: STATE is told", town.told(3), 4);
  }

  private static void loose() {
    WhiffCoins town = new WhiffCoins();
    Due.is("17: n 0", town.loose(0), Due.BEYOND);
    Due.is("17: n 41", town.loose(41), Due.BEYOND);
    Due.is("17: no coins", town.loose(40), 0);
    Due.is("17: no draws", town.count(10), 1);
    Due.is("17: days", town.count(2), 40);
    town.trader(0, 1);
    town.loose(1);
    Due.is("17: a trader, no coins", town.count(10), 1);
    Due.coin(town, 1, 0, 0);
    town.seed(1);
    town.loose(1);
    int z = 1103515245 + 12345;
    Due.is("17: two draws, though it is the holder", town.count(10), z * 1103515245 + 12345);
    Due.is("17: no sale to the holder", town.count(3), 0);
  }

  private static void looseByDraws() {
    int z = 77;
    int[] holder = {0, 1, 2, 0};
    int sales = 0;
    WhiffCoins town = Due.town(0, 0, 0);
    for (int coin = 0; coin < 4; coin++) {
      Due.coin(town, 9, holder[coin], 0);
    }
    town.change(2, 1, 99);
    town.fade(1);
    town.seed(z);
    for (int day = 0; day < 60; day++) {
      z = z * 1103515245 + 12345;
      int coin = (z >>> 8) % 4;
      z = z * 1103515245 + 12345;
      int trader = (z >>> 8) % 3;
      if (trader != 2 && holder[coin] != trader) {
        holder[coin] = trader;
        sales++;
      }
      town.loose(1);
      for (int i = 0; i < 4; i++) {
        town.rub(i, 0);
        Due.is("17: day " + day + ", holder of " + i, town.ofCoin(i, 1), holder[i]);
      }
    }
    Due.is("17: sales", town.count(3), sales);
    Due.is("17: z", town.count(10), z);
  }
}
