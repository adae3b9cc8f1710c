/** Promises 11 to 13. */
public final class TextsTest {
  public static void main(String[] args) {
    feed();
    faults();
    text();
    operators();
    law();
    Due.end();
  }

  private static void feed() {
    WhiffCoins town = new WhiffCoins();
    Due.is("11: n 0", town.feed(0, 0), Due.BEYOND);
    Due.is("11: n 9", town.feed(0, 9), Due.BEYOND);
    Due.is("11: n -1", town.feed(0, -1), Due.BEYOND);
    Due.is("11: the lowest first", town.feed('v' | '+' << 8 | '1' << 16 | 'x' << 24, 3), 3);
    Due.is("11: text", town.text(0), 1);
    Due.is("11: v+1", town.law(0, 5, 0, 0), 6);
    for (int i = 1; i <= 6; i++) {
      Due.is("11: eight", town.feed(-1L, 8), 8 * i);
    }
    Due.is("11: too many", town.feed(0, 3), Due.FULL);
    Due.is("11: nothing has come", town.count(7), 48);
    Due.is("11: to the last", town.feed(0, 2), 50);
    Due.is("11: one too many", town.feed(0, 1), Due.FULL);
    Due.is("11: n 9 ahead of FULL", town.feed(0, 9), Due.BEYOND);
    Due.is("11: FULL is told", town.told(4), 2);
    WhiffCoins whole = new WhiffCoins();
    Due.is("11: eight at once", Due.feed(whole, "v*1111+l"), 8);
    Due.is("11: eight at once", whole.text(0), 1);
    Due.is("11: eight at once", whole.law(0, 0, 7, 0), 7);
    Due.is("11: a byte above 127", Due.text(whole, 0, "v+1+1+1" + (char) 200), -17);
  }

  private static void fault(String signs, int due) {
    Due.is("12: " + signs, Due.text(new WhiffCoins(), 0, signs), due < 0 ? 1 : -10 - due);
  }

  private static void faults() {
    fault("", 0);
    fault("v", -1);
    fault("k", 0);
    fault("vv", 1);
    fault("v ", 1);
    fault(" v", 0);
    fault("v+", 2);
    fault("+v", 0);
    fault("-1", 0);
    fault("1234", -1);
    fault("0000", -1);
    fault("12345", 4);
    fault("v+12345", 6);
    fault("1v", 1);
    fault("v1", 1);
    fault("v<l", -1);
    fault("v<l<d", 3);
    fault("v<l=d", 3);
    fault("v=l>d", 3);
    fault("v<l&d>1", -1);
    fault("v<l|d>1", -1);
    fault("(v<l)<d", -1);
    fault("v<(l<d)", -1);
    fault("v<l+(l<d", 8);
    fault("v<<l", 2);
    fault("v<=l", 2);
    fault("v&&l", 2);
    fault("v||l", 2);
    fault("v|l|d&v&l", -1);
    fault("v+l-d*2/3%4", -1);
    fault("v**l", 2);
    fault("()", 1);
    fault("(v", 2);
    fault("(v))", 3);
    fault("v)", 1);
    fault("(v)v", 3);
    fault("(v)(l)", 3);
    fault("v!", 1);
    fault("!", 1);
    fault("!v", -1);
    fault("!!!!!v", -1);
    fault("!!!!!!v", 5);
    fault("(((((v)))))", -1);
    fault("((((((v))))))", 5);
    fault("(!(!(v)))", -1);
    fault("(!(!(!v)))", 5);
    fault("(((((v)))))+(((((l)))))", -1);
    fault("!!!!!v+!!!!!l", -1);
    fault("!!!!!v+!!!!!!l", 12);
    fault("!(!(!v+!l))", -1);
    fault("(!!v+!!!l)", -1);
    fault("(!!v+!!!!!l)", 9);
    fault("((((!v+!l))))", -1);
    fault("((((!(v", 5);
    fault("!-1", 1);
    fault("v" + (char) 200, 1);
    fault((char) 0 + "v", 0);
    fault("1+1+1+1+1+1+1+1+1+1+1+1+1+1+1+1+1+1+1+1+1+1+1+1+1+", 50);
    fault("1+1+1+1+1+1+1+1+1+1+1+1+1+1+1+1+1+1+1+1+1+1+1+1+11", -1);
  }

  private static void text() {
    WhiffCoins town = new WhiffCoins();
    Due.feed(town, "v-1");
    Due.is("12: use 2", town.text(2), Due.BEYOND);
    Due.is("12: use -1", town.text(-1), Due.BEYOND);
    Due.is("12: the tape stays", town.count(7), 3);
    Due.is("12: text", town.text(0), 1);
    Due.is("12: the tape is empty", town.count(7), 0);
    Due.is("12: law", town.law(0, 8, 5, 5), 7);
    Due.is("12: the other use has none", town.law(1, 8, 5, 5), 5);
    Due.is("12: fault", Due.text(town, 0, "v+k"), -12);
    Due.is("12: the tape is empty, too", town.count(7), 0);
    Due.is("12: the one ahead stays", town.law(0, 8, 5, 5), 7);
    Due.is("12: a fault is no error", town.told(1), 2);
    Due.is("12: in place of the one ahead", Due.text(town, 0, "d"), 1);
    Due.is("12: in place of the one ahead", town.law(0, 8, 5, 4), 4);
    Due.is("12: names of use 1", Due.text(town, 1, "v*t+k"), 1);
    Due.is("12: names of use 1", town.law(1, 2, 3, 4), 11);
    Due.is("12: l is none of use 1", Due.text(town, 1, "l"), -10);
    Due.is("12: t is none of use 0", Due.text(town, 0, "t"), -10);
    Due.is("12: a longer one goes", Due.text(town, 1, "1+1+1+1"), 1);
    Due.is("12: a shorter one comes", Due.text(town, 1, "t"), 1);
    Due.is("12: a shorter one comes", town.law(1, 2, 3, 4), 4);
    for (int i = 1; i <= 3; i++) {
      String longest = "t+1+1+1+1+1+1+1+1+1+1+1+1+1+1+1+1+1+1+1+1+1+1+1-" + i;
      Due.is("12: a long one behind another", Due.text(town, 1, longest), 1);
      Due.is("12: a long one behind another", town.law(1, 2, 3, 4), 4 + 23 - i);
    }
  }

  private static void gives(String signs, int v, int l, int d, int due) {
    WhiffCoins town = new WhiffCoins();
    Due.is("12: " + signs, Due.text(town, 0, signs), 1);
    Due.is("12: " + signs + " gives", town.law(0, v, l, d), due);
  }

  private static void operators() {
    gives("v|l", 0, 0, 0, 0);
    gives("v|l", 5, 0, 0, 1);
    gives("v|l", 0, -3, 0, 1);
    gives("v&l", 5, 7, 0, 1);
    gives("v&l", 5, 0, 0, 0);
    gives("v|l&d", 1, 0, 0, 1);
    gives("v<l", 1, 2, 0, 1);
    gives("v<l", 2, 2, 0, 0);
    gives("v=l", 2, 2, 0, 1);
    gives("v=l", 2, 3, 0, 0);
    gives("v>l", 3, 2, 0, 1);
    gives("v>l", 2, 2, 0, 0);
    gives("v-l-d", 10, 3, 2, 5);
    gives("v-l+d", 10, 3, 2, 9);
    gives("v/l/d", 64, 4, 4, 4);
    gives("v/l*d", 7, 2, 3, 9);
    gives("v*l%d", 7, 3, 5, 1);
    gives("v%l*d", 17, 5, 7, 14);
    gives("v+l*d", 2, 3, 4, 14);
    gives("(v+l)*d", 2, 3, 4, 20);
    gives("v/l", -7, 2, 0, -3);
    gives("v%l", -7, 2, 0, -1);
    gives("v%l", 7, -2, 0, 1);
    gives("v/l", 7, 0, 0, 0);
    gives("v%l", 7, 0, 0, 0);
    gives("v/l=v", Integer.MIN_VALUE, -1, 0, 1);
    gives("v%l", Integer.MIN_VALUE, -1, 0, 0);
    gives("v+l<0", Integer.MAX_VALUE, 1, 0, 1);
    gives("v*l=d", 65536, 65536, 0, 1);
    gives("!v", 0, 0, 0, 1);
    gives("!v", -4, 0, 0, 0);
    gives("!!v", -4, 0, 0, 1);
    gives("!v+l", 0, 4, 0, 5);
    gives("!(v+l)", 0, 4, 0, 0);
    gives("v+1<l*2&d", 2, 2, 9, 1);
    gives("v<l+d", 3, 2, 2, 1);
    gives("9999-9990", 0, 0, 0, 9);
    gives("0", 1, 2, 3, 0);
    gives("v+0", 1, 2, 3, 1);
    gives("0012", 0, 0, 0, 12);
    gives("v-(l-(d-1))", 9, 5, 3, 6);
  }

  private static void law() {
    WhiffCoins town = new WhiffCoins();
    Due.is("13: without a text", town.law(0, 3, 2, 1), 33);
    Due.is("13: held above", town.law(0, 9, 6, 0), 99);
    Due.is("13: held below", town.law(0, 0, 0, 100), -99);
    Due.is("13: toll without a text", town.law(1, 9, 3, 9), 3);
    Due.is("13: toll held above", town.law(1, 9, 100, 9), 99);
    Due.is("13: toll held below", town.law(1, 9, -1, 9), 0);
    Due.is("13: wraps", town.law(0, 429496730, 0, 0), 4);
    Due.text(town, 0, "v");
    Due.text(town, 1, "v");
    Due.is("13: text held above", town.law(0, 100, 0, 0), 99);
    Due.is("13: text held below", town.law(0, -100, 0, 0), -99);
    Due.is("13: within", town.law(0, -98, 0, 0), -98);
    Due.is("13: toll text held above", town.law(1, 100, 0, 0), 99);
    Due.is("13: toll text held below", town.law(1, -1, 0, 0), 0);
    Due.is("13: use 2", town.law(2, 0, 0, 0), Due.BEYOND);
    Due.is("13: use -1", town.law(-1, 0, 0, 0), Due.BEYOND);
  }
}
