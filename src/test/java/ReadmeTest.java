/** The examples of README.md. */
public final class ReadmeTest {
  public static void main(String[] args) {
    WhiffCoins town = new WhiffCoins();
    int tanner = town.trader(14, 2);
    int dog = town.trader(30, 5);
    Due.is("KIND", town.ofTrader(tanner, 0), 1);
    Due.is("m", town.ofTrader(tanner, 1), 4);
    Due.is("WARE", town.ofTrader(tanner, 2), 2);
    Due.is("KIND", town.ofTrader(dog, 0), 3);
    Due.is("m", town.ofTrader(dog, 1), 0);
    Due.is("WARE", town.ofTrader(dog, 2), 5);
    int coin = town.coin(3, tanner);
    Due.is("VALUE", town.ofCoin(coin, 0), 3);
    Due.is("sold", town.sale(coin, dog), 1);
    Due.is("row", town.ofCoin(coin, 3), 5);

    Due.is("v*l+", town.feed(0x2b6c2a76L, 4), 4);
    Due.is("d", town.feed('d', 1), 5);
    Due.is("read", town.text(0), 1);
    Due.is("given", town.law(0, 3, 4, 5), 17);

    Due.is("an ERROR", town.coin(0, tanner), Due.BEYOND);
    Due.is("how many", town.told(1), 1);
    town.seed(Due.BEYOND);
    Due.is("z, no ERROR", town.count(10), Due.BEYOND);
    Due.is("how many still", town.told(1), 1);
    Due.end();
  }
}
