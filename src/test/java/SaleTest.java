/** Promises 40 and 45: two who ask a price each, and the odds of no broken lamp. */
public final class SaleTest {
  public static void main(String[] args) {
    rests();
    wrongOnes();
    allWorths();
    odds();
    Kit.finish();
  }

  /** WORTH of a is its HOOT less 20, that of b likewise, so that they can be below 0. */
  private static VintageJams two(int worth, int other) {
    return Kit.told("worth hoot - 20;car a at 0 0 heads 0 hoots " + (worth + 20) + ";car b at 1 0 heads 0 hoots "
        + (other + 20) + ";");
  }

  private static void rests() {
    VintageJams x = two(10, 6);
    Kit.due("sale(0, 1)", x.sale(0, 1), 2);
    Kit.dueLies(x, "sale(0, 1)", 4, 0);
    // now it is the other one who loses if both are alike: he must ask 3 at most above 0
    Kit.due("sale(1, 0)", x.sale(1, 0), 2);
    Kit.dueLies(x, "sale(1, 0)", 0, 3);
    x = two(-1, -1);
    Kit.due("nobody can sell", x.sale(0, 1), 100);
    Kit.dueLies(x, "nobody", 0, 0);
    x = two(5, -1);
    // only a can sell: what he asks is 5, whatever b asks
    Kit.due("only one can sell", x.sale(0, 1), 10);
    Kit.dueLies(x, "only one", 5, 0);
    x = two(0, 0);
    // nobody can get more than 0: all prices rest
    Kit.due("worth nothing", x.sale(0, 1), 100);
    Kit.dueLies(x, "worth nothing", 0, 0);
    x = two(30, 4);
    // a asks 9 and sells all the same
    Kit.due("far above", x.sale(0, 1), 10);
    Kit.dueLies(x, "far above", 9, 0);
  }

  private static void wrongOnes() {
    VintageJams x = two(10, 6);
    int[][] wrong = {{0, 0}, {0, 2}, {2, 0}, {-1, 0}, {0, -1}, {2, 3}};
    for (int[] pair : wrong) {
      x.sale(0, 1);
      Kit.due("sale(" + pair[0] + ", " + pair[1] + ")", x.sale(pair[0], pair[1]), -1);
      Kit.dueLies(x, "sale NONE");
    }
    x.tow(1);
    Kit.due("OFF", x.sale(0, 1), -1);
    Kit.due("OFF", x.sale(1, 0), -1);
  }

  private static int buyer(int worth, int other, int asked, int otherAsked) {
    int above = worth - asked;
    int otherAbove = other - otherAsked;
    if (Math.max(above, otherAbove) < 0) {
      return 0;
    }
    return above >= otherAbove ? 1 : 2;
  }

  private static boolean rest(int worth, int other, int asked, int otherAsked) {
    int gain = buyer(worth, other, asked, otherAsked) == 1 ? asked : 0;
    int otherGain = buyer(worth, other, asked, otherAsked) == 2 ? otherAsked : 0;
    for (int price = 0; price <= 9; price++) {
      if (buyer(worth, other, price, otherAsked) == 1 && price > gain) {
        return false;
      }
      if (buyer(worth, other, asked, price) == 2 && price > otherGain) {
        return false;
      }
    }
    return true;
  }

  private static void allWorths() {
    for (int worth = -2; worth <= 21; worth++) {
      for (int other = -2; other <= 21; other++) {
        int count = 0;
        int first = -1;
        int second = -1;
        for (int asks = 0; asks < 100; asks++) {
          if (rest(worth, other, asks / 10, asks % 10)) {
            if (count == 0) {
              first = asks / 10;
              second = asks % 10;
            }
            count++;
          }
        }
        VintageJams x = two(worth, other);
        String call = "sale of " + worth + ", " + other;
        Kit.due(call, x.sale(0, 1), count);
        if (count == 0) {
          Kit.dueLies(x, call);
        } else {
          Kit.dueLies(x, call, first, second);
        }
      }
    }
  }

  private static void odds(int breaks, int n, int upper, int lower) {
    VintageJams x = Kit.told("breaks " + breaks + ";car a at 0 0 heads 0 hoots 0 body 0;");
    Kit.due("breaks " + breaks + ": odds(0, " + n + ", 0)", x.odds(0, n, 0), upper);
    Kit.due("breaks " + breaks + ": odds(0, " + n + ", 1)", x.odds(0, n, 1), lower);
  }

  private static void odds() {
    odds(0, 0, 1, 1);
    odds(0, 4, 1, 1);
    odds(100, 0, 1, 1);
    odds(100, 1, 0, 1);
    odds(100, 4, 0, 1);
    odds(40, 0, 1, 1);
    odds(40, 1, 3, 5);
    odds(40, 2, 9, 25);
    odds(40, 3, 27, 125);
    odds(40, 4, 81, 625);
    odds(1, 4, 96059601, 100000000);
    odds(99, 4, 1, 100000000);
    odds(50, 3, 1, 8);
    odds(96, 2, 1, 625);
    odds(36, 4, 65536, 390625);
    VintageJams x = Kit.told("breaks 40;car a at 0 0 heads 0 hoots 0;");
    Kit.due("n 5", x.odds(0, 5, 0), -1);
    Kit.due("n -1", x.odds(0, -1, 0), -1);
    Kit.due("part 2", x.odds(0, 1, 2), -1);
    Kit.due("part -1", x.odds(0, 1, -1), -1);
    Kit.due("no such CAR", x.odds(1, 1, 0), -1);
    Kit.due("no such CAR", x.odds(-1, 1, 0), -1);
    x.year();
    Kit.due("whatever the SEED is", x.odds(0, 2, 0), 9);
    x.tow(0);
    Kit.due("OFF", x.odds(0, 1, 0), -1);
  }
}
