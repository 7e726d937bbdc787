/** Promises 8, 28 to 36, 41 to 43: formulas, WORTH, PRICE, years ahead, HEIR, finest, fullest. */
public final class WorthTest {
  private static final String THREE =
      "car a at 0 0 heads 0 hoots 9 body 4;car b at 1 3 heads 0 hoots 5 body 2;car c at 2 3 heads 0 hoots 2 body 6;";

  public static void main(String[] args) {
    formulas();
    wrapping();
    limits();
    variables();
    byDefault();
    prices();
    vintages();
    ripeAndQuiet();
    beyondTheLastYear();
    noLampBreaks();
    heirs();
    finestAndFullest();
    Kit.finish();
  }

  private static void value(String formula, int due) {
    VintageJams x = Kit.told("worth " + formula + ";car a at 2 3 heads 0 hoots 7 body 5;");
    Kit.due(formula, x.worth(0), due);
  }

  private static void formulas() {
    value("12", 12);
    value("1 + 2 * 3", 7);
    value("(1 + 2) * 3", 9);
    value("10 - 3 - 2", 5);
    value("10 - (3 - 2)", 9);
    value("100 / 10 / 5", 2);
    value("100 / (10 / 5)", 50);
    value("17 % 10 % 4", 3);
    value("2 * 7 / 4", 3);
    value("7 / 4 * 2", 2);
    value("7 - 2 * 3 + 1", 2);
    value("7 / 0", 0);
    value("7 % 0", 0);
    value("(0 - 7) / 2", -3);
    value("(0 - 7) % 2", -1);
    value("7 / (0 - 2)", -3);
    value("7 % (0 - 2)", 1);
    value("3 < 4", 1);
    value("4 < 4", 0);
    value("4 > 3", 1);
    value("4 > 4", 0);
    value("4 = 4", 1);
    value("4 = 5", 0);
    value("1 + 1 < 1 + 2", 1);
    value("(1 < 2) + (2 < 3)", 2);
    value("5 and 6", 1);
    value("5 and 0", 0);
    value("0 and 5", 0);
    value("0 or 6", 1);
    value("6 or 0", 1);
    value("0 or 0", 0);
    value("1 or 0 and 0", 1);
    value("(1 or 0) and 0", 0);
    value("0 and 0 or 1", 1);
    value("not 0", 1);
    value("not 5", 0);
    value("not not 5", 1);
    value("not 1 < 0", 1);
    value("not 0 and 0", 0);
    value("not (0 and 0)", 1);
    value("not 0 or 1", 1);
    value("(not 1) < 1", 1);
    value("0 - 1 and 1", 1);
    value("not (0 - 1)", 0);
    value("1 = 1 and 2 = 2 and 3 = 3", 1);
    value("1 = 2 or 2 = 2 or 3 = 4", 1);
  }

  private static void wrapping() {
    // 9999 * 9999 * 9999 * 9999 wraps, as ints do
    int power = 9999 * 9999 * 9999 * 9999;
    value("9999 * 9999 * 9999 * 9999 % 1000", power % 1000);
    value("9999 * 9999 * 9999 * 9999 / 9999 / 100", power / 9999 / 100);
    // the least int by -1 is itself
    String least = "(0 - 1024 * 1024 * 2048)";
    value(least + " / (0 - 1) / 1024 / 1024", -2048);
    value(least + " % (0 - 1)", 0);
    value("(" + least + " - 1) / 1024 / 1024", 2047);
    value("0 - 1024 * 1024 * 4095 > 0", -1024 * 1024 * 4095 > 0 ? 1 : 0);
    value("1024 * 1024 * 2048 < 0", 1);
  }

  private static void limits() {
    value("9999", 9999);
    value("9999 + 1", 9999);
    value("9999 * 9999", 9999);
    value("0 - 9999", -9999);
    value("0 - 9999 - 1", -9999);
    value("0 - 9999 * 9999", -9999);
    VintageJams x = Kit.told("worth 9999 * 2;" + THREE);
    Kit.due("each by itself", x.price(), 3 * 9999);
  }

  private static void variables() {
    VintageJams x = Kit.told("worth hoot * 1000 + bodied * 100 + many * 10 + lane - year;" + THREE);
    Kit.due("worth(0)", x.worth(0), 9430);
    Kit.due("worth(1)", x.worth(1), 5233);
    Kit.due("worth(2)", x.worth(2), 2633);
    Kit.due("worth(3)", x.worth(3), Kit.NO_PRICE);
    Kit.due("worth(-1)", x.worth(-1), Kit.NO_PRICE);
    x.tow(0);
    Kit.due("OFF: worth(0)", x.worth(0), Kit.NO_PRICE);
    Kit.due("one less", x.worth(1), 5223);
    x.year();
    Kit.due("a YEAR more", x.worth(1), 4222);
    x.put(0, 35);
    Kit.due("another row", x.worth(0), 9434);
    x.polish(2);
    Kit.due("polished", x.worth(2), 1732);
  }

  private static void byDefault() {
    VintageJams x = Kit.told(THREE);
    Kit.due("worth(0)", x.worth(0), -9);
    x.year();
    x.year();
    Kit.due("worth(0)", x.worth(0), 4 * 2 - 7);
    Kit.due("worth(2)", x.worth(2), 6 * 2);
    Kit.due("softer(0)", x.softer(0), 1);
    Kit.due("softer(2)", x.softer(2), 0);
    Kit.due("softer(3)", x.softer(3), -1);
    Kit.due("softer(-1)", x.softer(-1), -1);
    x.tow(0);
    Kit.due("OFF: softer(0)", x.softer(0), -1);
    x = Kit.told("softens hoot - lane * 10 + many + year;" + THREE);
    Kit.due("softer: all there is at most", x.softer(0), 9);
    Kit.due("softer: 0 at least", x.softer(1), 0);
    x = Kit.told("softens hoot - lane + year;" + THREE);
    Kit.due("softer", x.softer(1), 2);
    x.year();
    Kit.due("softer", x.softer(1), 1);
  }

  private static void prices() {
    VintageJams x = Kit.told(THREE);
    Kit.due("price", x.price(), -16);
    Kit.due("noise", x.noise(), 16);
    Kit.due("dear(-5)", x.dear(-5), 6);
    Kit.due("dear(-4)", x.dear(-4), 4);
    Kit.due("dear(-1)", x.dear(-1), 0);
    Kit.due("dear(least)", x.dear(Integer.MIN_VALUE), 7);
    Kit.due("dear(greatest)", x.dear(Integer.MAX_VALUE), 0);
    Kit.due("will(0)", x.will(0), -16);
    Kit.due("will(1)", x.will(1), 12 - 13);
    Kit.due("will(3)", x.will(3), 36 - 6 - 2);
    Kit.due("will(60)", x.will(60), 12 * 60);
    Kit.due("will(61)", x.will(61), Kit.NO_PRICE);
    Kit.due("will(-1)", x.will(-1), Kit.NO_PRICE);
    Kit.due("hoot(0, 0)", x.hoot(0, 0), 9);
    Kit.due("hoot(0, 8)", x.hoot(0, 8), 1);
    Kit.due("hoot(0, 60)", x.hoot(0, 60), 0);
    Kit.due("hoot(0, 61)", x.hoot(0, 61), -1);
    Kit.due("hoot(0, -1)", x.hoot(0, -1), -1);
    Kit.due("hoot(3, 0)", x.hoot(3, 0), -1);
    Kit.due("hoot(-1, 0)", x.hoot(-1, 0), -1);
    Kit.due("nothing is done", x.about(4), 0);
    x.tow(0);
    Kit.due("only who is IN: price", x.price(), -7);
    Kit.due("only who is IN: noise", x.noise(), 7);
    Kit.due("only who is IN: dear", x.dear(-9999), 6);
    Kit.due("only who is IN: will", x.will(3), 24 - 2);
    Kit.due("OFF: hoot(0, 0)", x.hoot(0, 0), -1);
    x.year();
    Kit.due("from now on: will(2)", x.will(2), 24 - 2);
    Kit.due("from now on: hoot(1, 2)", x.hoot(1, 2), 2);
  }

  private static void vintages() {
    VintageJams x = Kit.told(THREE);
    Kit.due("vintage(0)", x.vintage(0), 30);
    Kit.due("vintage(1)", x.vintage(1), 360);
    Kit.due("vintage(2)", x.vintage(2), Kit.NO_PRICE);
    Kit.due("vintage(-1)", x.vintage(-1), Kit.NO_PRICE);
    x = Kit.told("worth year * (14 - year);" + THREE);
    Kit.due("vintage(0)", x.vintage(0), 7);
    Kit.due("vintage(1)", x.vintage(1), 147);
    x = Kit.told("worth year * (15 - year);" + THREE);
    Kit.due("of like ones the least", x.vintage(0), 7);
    x.year();
    x.year();
    Kit.due("from now on", x.vintage(0), 5);
    x = Kit.told("worth 0 - 5;" + THREE);
    Kit.due("all alike", x.vintage(0), 0);
    Kit.due("below 0", x.vintage(1), -15);
    x = Kit.told("worth year = 31;" + THREE);
    Kit.due("31 is too late", x.vintage(0), 0);
    x = Kit.told("worth year = 30;" + THREE);
    Kit.due("30 is not", x.vintage(0), 30);
  }

  private static void ripeAndQuiet() {
    VintageJams x = Kit.told(THREE);
    Kit.due("ripe(-16)", x.ripe(-16), 0);
    Kit.due("ripe(least)", x.ripe(Integer.MIN_VALUE), 0);
    Kit.due("ripe(-15)", x.ripe(-15), 1);
    Kit.due("ripe(-1)", x.ripe(-1), 1);
    Kit.due("ripe(0)", x.ripe(0), 2);
    Kit.due("ripe(720)", x.ripe(720), 60);
    Kit.due("ripe(721)", x.ripe(721), -1);
    Kit.due("quiet", x.quiet(), 9);
    x.year();
    Kit.due("quiet", x.quiet(), 8);
    Kit.due("ripe(720)", x.ripe(720), 59);
    x.tow(0);
    Kit.due("only who is IN: quiet", x.quiet(), 4);
    x.tow(1);
    x.tow(2);
    Kit.due("nobody IN: quiet", x.quiet(), 0);
    Kit.due("nobody IN: price", x.price(), 0);
    Kit.due("nobody IN: ripe(0)", x.ripe(0), 0);
    Kit.due("nobody IN: ripe(1)", x.ripe(1), -1);
    Kit.due("quiet in 99", Kit.told("car a at 0 0 heads 0 hoots 99;").quiet(), 99);
    Kit.due("never", Kit.told("softens 0;car a at 0 0 heads 0 hoots 1;").quiet(), -1);
    Kit.due("in 100", Kit.told("softens year > 0;car a at 0 0 heads 0 hoots 99;").quiet(), -1);
    // ripe once, then no more: the first counts
    Kit.due("ripe first", Kit.told("worth (year = 4) + (year = 9);car a at 0 0 heads 0 hoots 9;").ripe(1), 4);
  }

  private static void beyondTheLastYear() {
    VintageJams y = Kit.told("worth year;softens year > 998;car a at 0 0 heads 0 hoots 9;");
    for (int i = 0; i < 999; i++) {
      y.year();
    }
    Kit.due("year", y.year(), -1);
    Kit.due("will(60)", y.will(60), 1059);
    Kit.due("hoot(0, 3)", y.hoot(0, 3), 6);
    Kit.due("softer(0)", y.softer(0), 1);
    Kit.due("vintage(1)", y.vintage(1), 1029);
    Kit.due("ripe(1010)", y.ripe(1010), 11);
    Kit.due("quiet", y.quiet(), 9);
  }

  private static void noLampBreaks() {
    VintageJams x = Kit.told("breaks 100;" + THREE);
    Kit.due("will(10)", x.will(10), 120);
    Kit.due("vintage(0)", x.vintage(0), 30);
    Kit.due("ripe(720)", x.ripe(720), 60);
    x.year();
    Kit.due("but in a YEAR", x.price(), 9 - 13);
  }

  private static void heirs() {
    VintageJams x = Kit.told(THREE);
    Kit.due("heir", x.heir(), 2);
    x.tow(2);
    Kit.due("heir", x.heir(), 1);
    x.tow(1);
    Kit.due("heir", x.heir(), 0);
    x.tow(0);
    Kit.due("nobody IN", x.heir(), -1);
    // without the one of the most WORTH the others are worth more: many counts for b only
    x = Kit.told("worth (lane = 1) * 10 + (lane = 2) * (3 - many) * 100 + (lane = 3) * 8;"
        + "car a at 0 1 heads 0 hoots 0;car b at 0 2 heads 0 hoots 0;car c at 0 3 heads 0 hoots 0;");
    Kit.due("worth of b", x.worth(1), 0);
    Kit.due("heir with many", x.heir(), 1);
    x = Kit.told("worth 7;" + THREE);
    Kit.due("of like ones the first", x.heir(), 0);
    x.tow(0);
    Kit.due("of like ones the first", x.heir(), 1);
  }

  private static void finestAndFullest() {
    VintageJams x = Kit.told(THREE);
    Kit.due("finest", x.finest(), 2);
    Kit.due("fullest", x.fullest(), 3);
    x.tow(2);
    Kit.due("finest", x.finest(), 1);
    Kit.due("of like ones the first row", x.fullest(), 0);
    x.tow(0);
    Kit.due("fullest", x.fullest(), 3);
    x.tow(1);
    Kit.due("nobody IN: finest", x.finest(), -1);
    Kit.due("nobody IN: fullest", x.fullest(), 0);
    x = Kit.told("worth lane / 2;" + THREE);
    Kit.due("of like ones the first", x.finest(), 1);
    x = Kit.told("street 2 by 8;car a at 0 7 heads 0 hoots 0;car b at 1 7 heads 0 hoots 0;car c at 1 6 heads 0 hoots 0;");
    Kit.due("the last row", x.fullest(), 7);
  }
}
