import java.util.ArrayList;
import java.util.List;
import java.util.function.Supplier;
import java.util.function.ToIntFunction;

/**
 * "One that answers an ERROR changes nothing but what told() tells", and what is only thought or
 * asked changes nothing at all: of two towns alike one gets the call, then both are asked all that
 * can be asked. Each act's ERRORS come in the document's order.
 */
public final class RefusalsTest {
  private static final int MIN = Integer.MIN_VALUE;
  private static final int MAX = Integer.MAX_VALUE;

  private static Supplier<WhiffCoins> maker = RefusalsTest::full;

  public static void main(String[] args) {
    traders();
    coins();
    texts();
    salesAndDays();
    whatWouldBe();
    voicesAndSheets();
    moves();
    imagesAndTold();
    onPoorTowns();
    onlyAsked();
    Due.end();
  }

  /** TRADERS and COINS are full, THE TAPE but one byte, 20 numbers wait, SHEET 3 is missing. */
  private static WhiffCoins full() {
    WhiffCoins town = Due.town(3, 14, 25, 36, 47, 58);
    for (int i = 0; i < 99; i++) {
      town.days(100);
    }
    int[] rows = {123, 0, 7, 76, 444, 5, 0, 231};
    for (int coin = 0; coin < 8; coin++) {
      Due.coin(town, coin + 1, coin % 6, rows[coin]);
    }
    Due.text(town, 0, "v*9+l-d");
    Due.text(town, 1, "k+t%3");
    town.fade(7);
    town.seed(4711);
    town.loose(40);
    town.image();
    sheetOf(town, 0, 8, 12);
    sheetOf(town, 1, 8, 3);
    sheetOf(town, 2, 16, 5);
    for (int i = 0; i < 20; i++) {
      town.tell(9);
    }
    town.loose(30);
    town.rub(0, 123);
    town.rub(4, 0);
    town.rub(7, 22);
    town.change(0, 1, 99);
    town.change(1, 0, 7);
    town.change(2, 2, 254);
    town.become(3, 69);
    town.fade(9);
    Due.feed(town, "v+1+1+1+1+1+1+1+1+1+1+1+1+1+1+1+1+1+1+1+1+1+1+1-l");
    town.voice(4, 3, 9);
    return town;
  }

  /** A COIN without SMELLS, and no IMAGE, no TRACE. */
  private static WhiffCoins poor() {
    WhiffCoins town = Due.town(0, 0);
    town.coin(1, 0);
    return town;
  }

  private static void sheetOf(WhiffCoins town, int sheet, int bits, int n) {
    town.sheet(sheet, bits, n);
    for (int i = 0; i < n; i++) {
      town.put(sheet, i, 7 * i + sheet);
    }
  }

  /** All that a town answers, each with what was asked; the image is looked at, too. */
  private static List<String> answers(WhiffCoins town) {
    List<String> list = new ArrayList<>();
    ask(town, list, "now ");
    sheets(town, list);
    list.add("restore " + town.restore());
    ask(town, list, "image ");
    list.add("images " + town.image());
    return list;
  }

  private static void ask(WhiffCoins town, List<String> list, String when) {
    for (int what = 0; what <= 10; what++) {
      list.add(when + "count " + what + " " + town.count(what));
    }
    for (int i = 0; i < 10; i++) {
      list.add(when + "trace " + i + " " + town.trace(i));
    }
    for (int trader = 0; trader < 6; trader++) {
      for (int what = 0; what <= 5; what++) {
        list.add(when + "trader " + trader + " " + what + " " + town.ofTrader(trader, what));
      }
    }
    for (int coin = 0; coin < 8; coin++) {
      for (int what = 0; what <= 3; what++) {
        list.add(when + "coin " + coin + " " + what + " " + town.ofCoin(coin, what));
      }
    }
    list.add(when + "worth " + town.law(0, 3, 2, 1));
    list.add(when + "toll " + town.law(1, 3, 2, 4));
    list.add(when + "check " + town.check());
    list.add(when + "tape " + town.text(0));
    list.add(when + "text of tape " + town.law(0, 3, 2, 1));
  }

  private static void sheets(WhiffCoins town, List<String> list) {
    int[] sizes = {3, 4, 5, 6, 12, 13};
    for (int sheet = 0; sheet < 4; sheet++) {
      for (int size : sizes) {
        list.add("sheet " + sheet + " " + size + " " + town.move(sheet, size, sheet, size, 0));
      }
      list.add("like 0 " + sheet + " " + town.move(0, 0, sheet, 0, 0));
      for (int half = 0; half < 2; half++) {
        list.add("numbers " + sheet + " " + town.prices(sheet));
        for (int trader = 0; trader < 6; trader++) {
          list.add("number " + sheet + " " + half + " " + town.ofTrader(trader, 3));
        }
        town.move(sheet, 6, sheet, 0, 6);
      }
    }
  }

  private static void unlike(String what, List<String> got, List<String> due) {
    for (int i = 0; i < Math.max(got.size(), due.size()); i++) {
      String is = i < got.size() ? got.get(i) : "nothing";
      String was = i < due.size() ? due.get(i) : "nothing";
      Due.is(what + " leaves " + was + ", which is " + is, is.equals(was) ? 1 : 0, 1);
    }
  }

  /** The call answers what is due; of all else but what told() tells nothing is changed. */
  private static void leaves(String what, int due, int error, ToIntFunction<WhiffCoins> call) {
    WhiffCoins town = maker.get();
    WhiffCoins twin = maker.get();
    Due.is(what, call.applyAsInt(town), due);
    for (int k = 1; k <= 5; k++) {
      Due.is(what + ", told " + k, town.told(k), twin.told(k) + (k == error ? 1 : 0));
    }
    unlike(what, answers(town), answers(twin));
  }

  private static void refuses(String what, int error, ToIntFunction<WhiffCoins> call) {
    leaves(what, error, -1000000000 - error, call);
  }

  private static void beyond(String what, ToIntFunction<WhiffCoins> call) {
    refuses(what + " BEYOND", Due.BEYOND, call);
  }

  private static void traders() {
    beyond("2: km, ahead of FULL", t -> t.trader(70, 1));
    beyond("2: ware, ahead of FULL", t -> t.trader(0, 8));
    refuses("2: seventh", Due.FULL, t -> t.trader(0, 1));
    beyond("3: trader", t -> t.ofTrader(6, 0));
    beyond("3: what", t -> t.ofTrader(0, 6));
    beyond("4: trader", t -> t.change(6, 0, 1));
    beyond("4: what", t -> t.change(0, 3, 1));
    beyond("4: what", t -> t.change(0, -1, 1));
    beyond("4: ware 0", t -> t.change(0, 0, 0));
    beyond("4: ware 8", t -> t.change(0, 0, 8));
    beyond("4: price -1", t -> t.change(0, 1, -1));
    beyond("4: price 100", t -> t.change(0, 1, 100));
    beyond("4: likes, odd", t -> t.change(0, 2, 3));
    beyond("4: likes 256", t -> t.change(0, 2, 256));
    beyond("5: trader", t -> t.become(6, 0));
    beyond("5: km", t -> t.become(0, 70));
    beyond("6: trader", t -> t.as(6, 0));
    beyond("6: kind, ahead of KIND", t -> t.as(0, 7));
    refuses("6: not of that KIND", Due.KIND, t -> t.as(0, 1));
  }

  private static void coins() {
    beyond("7: value, ahead of FULL", t -> t.coin(0, 0));
    beyond("7: holder, ahead of FULL", t -> t.coin(1, 6));
    refuses("7: ninth", Due.FULL, t -> t.coin(1, 0));
    beyond("8: coin", t -> t.ofCoin(8, 0));
    beyond("8: what", t -> t.ofCoin(0, 4));
    beyond("9: coin", t -> t.rub(8, 1));
    beyond("9: an 8", t -> t.rub(0, 8));
    beyond("9: a 9", t -> t.rub(0, 191));
    beyond("9: a 0 at the end", t -> t.rub(0, 10));
    beyond("9: a 0 amid", t -> t.rub(0, 101));
    beyond("9: 778", t -> t.rub(0, 778));
    beyond("9: below 0", t -> t.rub(0, -1));
    beyond("9: four digits", t -> t.rub(0, 1111));
    beyond("10: 0", t -> t.fade(0));
    beyond("10: 10", t -> t.fade(10));
  }

  private static void texts() {
    beyond("11: n 0", t -> t.feed('v', 0));
    beyond("11: n 9, ahead of FULL", t -> t.feed('v', 9));
    refuses("11: two bytes for one", Due.FULL, t -> t.feed('v', 2));
    refuses("11: eight bytes for one", Due.FULL, t -> t.feed('v', 8));
    beyond("12: use", t -> t.text(2));
    beyond("12: use", t -> t.text(-1));
    beyond("13: use", t -> t.law(2, 0, 0, 0));
    beyond("13: use", t -> t.law(-1, 0, 0, 0));
  }

  private static void salesAndDays() {
    beyond("14: coin", t -> t.worth(8, 0));
    beyond("14: trader", t -> t.worth(0, 6));
    beyond("15: coin", t -> t.sale(8, 0));
    beyond("15: trader", t -> t.sale(0, 6));
    int holder = full().ofCoin(0, 1);
    refuses("15: holds it", Due.STATE, t -> t.sale(0, holder));
    beyond("16: n 0", t -> t.days(0));
    beyond("16: n 101, ahead of STATE", t -> t.days(101));
    refuses("16: to DAY 10000", Due.STATE, t -> t.days(30));
    refuses("16: to DAY 10070", Due.STATE, t -> t.days(100));
    beyond("17: n 0", t -> t.loose(0));
    beyond("17: n 41, ahead of STATE", t -> t.loose(41));
    refuses("17: to DAY 10000", Due.STATE, t -> t.loose(30));
  }

  private static void whatWouldBe() {
    beyond("18: trader", t -> t.worst(6, 0));
    beyond("18: other", t -> t.worst(0, 6));
    beyond("18: one and the same, ahead of NONE", t -> t.worst(0, 0));
    beyond("19: trader", t -> t.pays(6, 0, 1));
    beyond("19: other", t -> t.pays(0, 6, 1));
    beyond("19: one and the same", t -> t.pays(0, 0, 1));
    beyond("19: sum 0", t -> t.pays(0, 1, 0));
    beyond("19: sum 1000, ahead of NONE", t -> t.pays(0, 1, 1000));
    refuses("19: not with all", Due.NONE, t -> t.pays(0, 1, 999));
    beyond("20: coin", t -> t.launder(8, 0, 0));
    beyond("20: row", t -> t.launder(0, 80, 0));
    beyond("20: what", t -> t.launder(0, 123, 3));
    beyond("20: what, ahead of NONE", t -> t.launder(0, 777, -2));
    refuses("20: not by 3", Due.NONE, t -> t.launder(0, 777, -1));
    refuses("20: not by 3", Due.NONE, t -> t.launder(0, 777, 2));
    beyond("21: coin", t -> t.hands(8, -1));
    beyond("21: what, ahead of NONE", t -> t.hands(4, 3));
    refuses("21: no such place", Due.NONE, t -> t.hands(4, 0));
    refuses("21: no row", Due.NONE, t -> t.hands(7, 0));
    beyond("22: coin", t -> t.round(8));
    beyond("25: coin", t -> t.takers(8, 0));
    beyond("25: n", t -> t.takers(0, 101));
    beyond("26: trader", t -> t.tolls(6, 0));
    beyond("26: n", t -> t.tolls(0, 101));
  }

  private static void voicesAndSheets() {
    beyond("28: trader", t -> t.voice(6, 0, 0));
    beyond("28: act", t -> t.voice(0, 4, 0));
    refuses("29: behind the last", Due.NONE, t -> t.trace(t.count(9)));
    refuses("29: below 0", Due.NONE, t -> t.trace(-1));
    beyond("30: sheet", t -> t.sheet(4, 8, 1));
    beyond("30: sheet, ahead of STATE", t -> t.sheet(-1, 8, -1));
    beyond("30: sheet, even to be missing", t -> t.sheet(4, 0, 1));
    beyond("30: bits", t -> t.sheet(0, 24, 1));
    beyond("30: bits, ahead of STATE", t -> t.sheet(0, 1, -1));
    refuses("30: n -1", Due.STATE, t -> t.sheet(0, 8, -1));
    refuses("30: n far below 0", Due.STATE, t -> t.sheet(0, 32, MIN));
    beyond("30: n 41", t -> t.sheet(0, 8, 41));
    beyond("31: sheet", t -> t.put(4, 0, 1));
    refuses("31: missing, ahead of BEYOND", Due.NONE, t -> t.put(3, -1, 1));
    beyond("31: number 12", t -> t.put(0, 12, 1));
    beyond("31: number -1", t -> t.put(0, -1, 1));
    beyond("33: sheet", t -> t.prices(4));
    refuses("33: missing", Due.NONE, t -> t.prices(3));
    beyond("34: sheet", t -> t.judge(4));
    refuses("34: missing", Due.NONE, t -> t.judge(3));
  }

  private static void moves() {
    beyond("32: sheet, ahead of NONE", t -> t.move(4, 0, 3, 0, 1));
    beyond("32: other, ahead of NONE", t -> t.move(3, 0, -1, 0, 1));
    refuses("32: missing, ahead of KIND", Due.NONE, t -> t.move(3, 0, 2, 0, -1));
    refuses("32: other missing", Due.NONE, t -> t.move(2, 0, 3, 0, -1));
    refuses("32: both missing", Due.NONE, t -> t.move(3, 0, 3, 0, 0));
    refuses("32: unlike bits, ahead of BEYOND", Due.KIND, t -> t.move(0, 0, 2, 0, -1));
    beyond("32: n -1", t -> t.move(0, 1, 1, 1, -1));
    beyond("32: i -1", t -> t.move(0, -1, 1, 0, 1));
    beyond("32: j -1", t -> t.move(0, 0, 1, -1, 1));
    beyond("32: one too many to take", t -> t.move(0, 11, 1, 0, 2));
    beyond("32: one too many to bring", t -> t.move(0, 0, 1, 2, 2));
    beyond("32: more than it has in itself", t -> t.move(1, 0, 1, 1, 3));
    beyond("32: none, from behind the end", t -> t.move(0, 13, 1, 0, 0));
    beyond("32: none, to behind the end", t -> t.move(0, 0, 1, 4, 0));
    beyond("32: i and n wrap", t -> t.move(0, MAX, 1, 0, 1));
    beyond("32: j and n wrap", t -> t.move(0, 0, 1, MAX, 1));
    beyond("32: n far above", t -> t.move(0, 1, 1, 1, MAX));
    beyond("32: n far below", t -> t.move(0, 0, 1, 0, MIN));
  }

  private static void imagesAndTold() {
    refuses("37: 20 wait", Due.FULL, t -> t.tell(9));
    beyond("39: 11", t -> t.count(11));
    beyond("39: -1", t -> t.count(-1));
    beyond("40: 0", t -> t.told(0));
    beyond("40: 6", t -> t.told(6));
  }

  private static void onPoorTowns() {
    maker = RefusalsTest::poor;
    refuses("18: would not take it", Due.NONE, t -> t.worst(1, 0));
    refuses("19: has none", Due.NONE, t -> t.pays(1, 0, 1));
    refuses("23: no COIN SMELLS", Due.NONE, t -> t.home());
    refuses("29: no TRACE", Due.NONE, t -> t.trace(0));
    refuses("32: all are missing", Due.NONE, t -> t.move(0, 0, 0, 0, 0));
    refuses("36: no IMAGE", Due.NONE, t -> t.restore());
    maker = WhiffCoins::new;
    beyond("7: no TRADER", t -> t.coin(1, 0));
    beyond("8: no COIN", t -> t.ofCoin(0, 0));
    beyond("9: no COIN", t -> t.rub(0, 1));
    beyond("14: no COIN", t -> t.worth(0, 0));
    beyond("15: no COIN", t -> t.sale(0, 0));
    beyond("22: no COIN", t -> t.round(0));
    refuses("23: no COIN", Due.NONE, t -> t.home());
    beyond("28: no TRADER", t -> t.voice(0, 0, 0));
    refuses("36: no IMAGE", Due.NONE, t -> t.restore());
  }

  private static void same(String what, int due, ToIntFunction<WhiffCoins> call) {
    leaves(what, due, 0, call);
  }

  /** What is no ERROR and changes nothing: what is asked, what is thought, what is REFUSED. */
  private static void onlyAsked() {
    maker = RefusalsTest::full;
    same("3: asks", 99, t -> t.ofTrader(0, 3));
    same("4: becomes what it is", 99, t -> t.change(0, 1, 99));
    same("6: asks", 3, t -> t.as(0, 0));
    same("13: asks", 27 + 2 - 1, t -> t.law(0, 3, 2, 1));
    same("22: thinks", full().round(0), t -> t.round(0));
    same("23: thinks", full().home(), t -> t.home());
    same("24: thinks", full().outcasts(), t -> t.outcasts());
    same("25: thinks, DAY beyond 9999", full().takers(0, 100), t -> t.takers(0, 100));
    same("26: thinks, DAY beyond 9999", full().tolls(5, 100), t -> t.tolls(5, 100));
    same("20: thinks", 0, t -> t.launder(0, 123, -1));
    same("20: thinks", full().launder(0, 0, -1), t -> t.launder(0, 0, -1));
    same("21: thinks", 0, t -> t.hands(7, -1));
    same("29: asks", 50, t -> t.trace(0));
    same("34: not so", full().judge(0), t -> t.judge(0));
    same("40: asks", 0, t -> t.told(2));
    int holder = full().ofCoin(2, 1);
    int other = holder == 0 ? 1 : 0;
    same("15: REFUSED", 0, t -> {
      int before = t.change(other, 1, 99);
      int answer = t.sale(2, other);
      t.change(other, 1, before);
      return answer;
    });
  }
}
