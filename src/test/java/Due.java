/** What the tests share: answers that are due, and texts that come to the tape. */
final class Due {
  static final int BEYOND = -1000000001;
  static final int NONE = -1000000002;
  static final int STATE = -1000000003;
  static final int FULL = -1000000004;
  static final int KIND = -1000000005;

  private static int asked = 0;
  private static int wrong = 0;

  private Due() {
  }

  static void is(String what, long got, long want) {
    asked++;
    if (got != want) {
      wrong++;
      System.out.println(what + " answered " + got + ", due is " + want);
    }
  }

  /** Ends the test, with exit code 1 if an answer was wrong. */
  static void end() {
    System.out.println(asked + " answers asked, " + wrong + " of them wrong");
    System.exit(wrong == 0 && asked > 0 ? 0 : 1);
  }

  /** The signs of a text come to the tape, as many as go into a word at a time. */
  static int feed(WhiffCoins town, String signs) {
    int last = 0;
    for (int begin = 0; begin < signs.length(); begin += 8) {
      int n = Math.min(8, signs.length() - begin);
      long word = 0;
      for (int i = n - 1; i >= 0; i--) {
        word = word << 8 | (signs.charAt(begin + i) & 255);
      }
      last = town.feed(word, n);
    }
    return last;
  }

  static int text(WhiffCoins town, int use, String signs) {
    feed(town, signs);
    return town.text(use);
  }

  /** A town with a TRADER for each km, with the WARES 1, 2, .. */
  static WhiffCoins town(int... kms) {
    WhiffCoins town = new WhiffCoins();
    for (int i = 0; i < kms.length; i++) {
      is("trader " + i, town.trader(kms[i], i + 1), i);
    }
    return town;
  }

  /** A COIN with a ROW: its number. */
  static int coin(WhiffCoins town, int value, int holder, int row) {
    int coin = town.coin(value, holder);
    town.rub(coin, row);
    return coin;
  }
}
