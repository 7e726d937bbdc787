/** Edges of promises 28 to 36: WORTH and HOOTS of all, now and behind some YEARS. */
public final class Edge28To36Test {
  /** WORTH -9, -5, -2 at first. */
  private static final String THREE = Kit.car(0, 0, 0, 0, 9, 4) + Kit.car(1, 1, 3, 0, 5, 2) + Kit.car(2, 2, 3, 0, 2, 6);
  private static final int[] NO_CARS = {-1, 3, 8, Kit.LEAST, Kit.MOST};
  private static final int[] WRONG_YEARS = {-1, 61, Kit.LEAST, Kit.MOST};

  public static void main(String[] args) {
    Kit.runEdges(Edge28To36Test.class, 28, 36);
    Kit.finish();
  }

  private static VintageJams nobodyIn() {
    VintageJams x = Kit.told("worth 100;" + THREE);
    for (int car = 0; car < 3; car++) {
      x.tow(car);
    }
    return x;
  }

  private static VintageJams eight(String formula, int hoot) {
    StringBuilder text = new StringBuilder("worth " + formula + ";");
    for (int i = 0; i < 8; i++) {
      text.append(Kit.car(i, i % 6, i / 6, 0, hoot));
    }
    return Kit.told(text.toString());
  }

  /** In the last year, by more calls than an object is used for. */
  private static VintageJams inTheLastYear(String text) {
    VintageJams x = Kit.told(text);
    for (int i = 0; i < 999; i++) {
      x.year();
    }
    Kit.due("no YEAR more", x.year(), -1);
    return x;
  }

  // ---- 28: dear

  static void promise28_justSoMuchAndOneMore() {
    VintageJams x = Kit.told(THREE);
    Kit.due("dear(-9)", x.dear(-9), 7);
    Kit.due("dear(-8)", x.dear(-8), 6);
    Kit.due("dear(-5)", x.dear(-5), 6);
    Kit.due("dear(-4)", x.dear(-4), 4);
    Kit.due("dear(-2)", x.dear(-2), 4);
    Kit.due("dear(-1)", x.dear(-1), 0);
  }

  static void promise28_theLeastAndTheMost() {
    VintageJams x = Kit.told(THREE);
    Kit.due("dear(least)", x.dear(Kit.LEAST), 7);
    Kit.due("dear(most)", x.dear(Kit.MOST), 0);
    x = eight("9999 + 1", 0);
    Kit.due("dear(9999)", x.dear(9999), 255);
    Kit.due("dear(10000)", x.dear(10000), 0);
    x = eight("0 - 9999 - 1", 0);
    Kit.due("dear(-9999)", x.dear(-9999), 255);
    Kit.due("dear(-9998)", x.dear(-9998), 0);
  }

  static void promise28_nobodyOrOff() {
    Kit.due("an empty JAM", new VintageJams().dear(Kit.LEAST), 0);
    Kit.due("nobody IN", nobodyIn().dear(Kit.LEAST), 0);
    VintageJams x = Kit.told(THREE);
    x.tow(1);
    Kit.due("one is OFF", x.dear(-9), 5);
  }

  static void promise28_nothingIsDoneByThisNorByPromises29To36() {
    VintageJams x = Kit.told("breaks 100;draw 7;" + THREE);
    x.year();
    x.tow(1);
    x.year();
    x.undo();
    x.order();
    String before = Kit.everything(x);
    x.noise();
    x.price();
    x.quiet();
    int[] numbers = {Kit.LEAST, -1, 0, 1, 2, 60, 61, Kit.MOST};
    for (int number : numbers) {
      x.dear(number);
      x.softer(number);
      x.will(number);
      x.hoot(0, number);
      x.hoot(number, 60);
      x.vintage(number);
      x.ripe(number);
    }
    Kit.due("all is as before", Kit.everything(x), before);
  }

  // ---- 29: noise

  static void promise29_fromNoneToTheMost() {
    Kit.due("an empty JAM", new VintageJams().noise(), 0);
    Kit.due("nobody IN", nobodyIn().noise(), 0);
    Kit.due("all quiet", eight("1", 0).noise(), 0);
    Kit.due("all as loud as can be", eight("1", 99).noise(), 792);
  }

  static void promise29_whoIsOffDoesNotCount() {
    VintageJams x = Kit.told(THREE);
    Kit.due("noise", x.noise(), 16);
    x.tow(0);
    Kit.due("noise", x.noise(), 7);
  }

  // ---- 30: softer

  static void promise30_offOrNoneSuch() {
    VintageJams x = Kit.told(THREE);
    for (int car : NO_CARS) {
      Kit.due("softer(" + car + ")", x.softer(car), -1);
    }
    x.tow(0);
    Kit.due("OFF", x.softer(0), -1);
  }

  static void promise30_0AtLeastAndAllThereIsAtMost() {
    String car = Kit.car(0, 0, 0, 0, 5);
    Kit.due("below 0", Kit.told("softens 0 - 1;" + car).softer(0), 0);
    Kit.due("0", Kit.told("softens 0;" + car).softer(0), 0);
    Kit.due("all but one", Kit.told("softens 4;" + car).softer(0), 4);
    Kit.due("just all", Kit.told("softens 5;" + car).softer(0), 5);
    Kit.due("one more than all", Kit.told("softens 6;" + car).softer(0), 5);
    Kit.due("far more", Kit.told("softens 9999 * 9999;" + car).softer(0), 5);
    Kit.due("nothing is left", Kit.told(Kit.car(0, 0, 0, 0, 0)).softer(0), 0);
    Kit.due("1 if not told", Kit.told(Kit.car(0, 0, 0, 0, 1)).softer(0), 1);
  }

  static void promise30_theNextYearDoesJustThat() {
    VintageJams x = Kit.told("softens hoot / 2 + lane + many + year;" + Kit.car(0, 0, 2, 0, 99));
    for (int i = 0; i < 5; i++) {
      int hoot = x.car(0, 2);
      int softer = x.softer(0);
      x.year();
      Kit.due("HOOT", x.car(0, 2), hoot - softer);
    }
  }

  // ---- 31: price

  static void promise31_fromTheLeastToTheMost() {
    Kit.due("an empty JAM", new VintageJams().price(), 0);
    Kit.due("nobody IN", nobodyIn().price(), 0);
    Kit.due("the most", eight("9999 * 2", 0).price(), 8 * 9999);
    Kit.due("the least", eight("0 - 9999 * 2", 0).price(), -8 * 9999);
  }

  static void promise31_whoIsOffDoesNotCount() {
    VintageJams x = Kit.told("worth many * 10;" + THREE);
    Kit.due("price", x.price(), 90);
    x.tow(0);
    Kit.due("price", x.price(), 40);
  }

  // ---- 32: will

  static void promise32_from0To60Years() {
    VintageJams x = Kit.told("worth year + 1;" + THREE);
    Kit.due("will(0)", x.will(0), 3);
    Kit.due("will(1)", x.will(1), 6);
    Kit.due("will(60)", x.will(60), 183);
    Kit.due("as price()", x.price(), 3);
  }

  static void promise32_another() {
    VintageJams x = Kit.told("worth year + 1;" + THREE);
    for (int n : WRONG_YEARS) {
      Kit.due("will(" + n + ")", x.will(n), Kit.NO_PRICE);
      Kit.due("an empty JAM: will(" + n + ")", new VintageJams().will(n), Kit.NO_PRICE);
    }
  }

  static void promise32_ofNobody() {
    Kit.due("an empty JAM", new VintageJams().will(60), 0);
    Kit.due("nobody IN", nobodyIn().will(60), 0);
  }

  static void promise32_noLampBreaks() {
    VintageJams x = Kit.told("breaks 100;worth bodied;" + THREE);
    Kit.due("will(60)", x.will(60), 12);
    x.year();
    Kit.due("but in a YEAR", x.will(60), 9);
  }

  static void promise32_beyondTheLastYear() {
    VintageJams x = inTheLastYear("worth year;" + Kit.car(0, 0, 0, 0, 9));
    Kit.due("will(0)", x.will(0), 999);
    Kit.due("will(1)", x.will(1), 1000);
    Kit.due("will(60)", x.will(60), 1059);
  }

  // ---- 33: hoot

  static void promise33_from0To60Years() {
    VintageJams x = Kit.told(Kit.car(0, 0, 0, 0, 99) + Kit.car(1, 1, 0, 0, 60) + Kit.car(2, 2, 0, 0, 59));
    Kit.due("hoot(0, 0)", x.hoot(0, 0), 99);
    Kit.due("hoot(0, 1)", x.hoot(0, 1), 98);
    Kit.due("hoot(0, 60)", x.hoot(0, 60), 39);
    Kit.due("hoot(1, 59)", x.hoot(1, 59), 1);
    Kit.due("just gone off", x.hoot(1, 60), 0);
    Kit.due("0 at least", x.hoot(2, 60), 0);
  }

  static void promise33_whatCantBe() {
    VintageJams x = Kit.told(THREE);
    for (int n : WRONG_YEARS) {
      Kit.due("hoot(0, " + n + ")", x.hoot(0, n), -1);
    }
    for (int car : NO_CARS) {
      Kit.due("hoot(" + car + ", 0)", x.hoot(car, 0), -1);
    }
    x.tow(0);
    Kit.due("OFF", x.hoot(0, 0), -1);
  }

  static void promise33_noLampBreaks() {
    VintageJams x = Kit.told("breaks 100;softens bodied;" + Kit.car(0, 0, 0, 0, 99, 3));
    Kit.due("hoot(0, 10)", x.hoot(0, 10), 69);
  }

  static void promise33_beyondTheLastYear() {
    VintageJams x = inTheLastYear("softens year > 998;" + Kit.car(0, 0, 0, 0, 61));
    Kit.due("hoot(0, 0)", x.hoot(0, 0), 61);
    Kit.due("hoot(0, 60)", x.hoot(0, 60), 1);
    Kit.due("softer(0)", x.softer(0), 1);
  }

  // ---- 34: vintage

  private static void dueVintage(VintageJams x, int years, int price) {
    Kit.due("vintage(0)", x.vintage(0), years);
    Kit.due("vintage(1)", x.vintage(1), price);
  }

  static void promise34_anotherWhat() {
    VintageJams x = Kit.told(THREE);
    int[] wrong = {-1, 2, Kit.LEAST, Kit.MOST};
    for (int what : wrong) {
      Kit.due("vintage(" + what + ")", x.vintage(what), Kit.NO_PRICE);
    }
  }

  static void promise34_from0To30Years() {
    dueVintage(Kit.told("worth 40 - year;" + THREE), 0, 120);
    dueVintage(Kit.told("worth year;" + THREE), 30, 90);
    dueVintage(Kit.told("worth year = 30;" + THREE), 30, 3);
    dueVintage(Kit.told("worth year = 29;" + THREE), 29, 3);
    dueVintage(Kit.told("worth year = 31;" + THREE), 0, 0);
  }

  static void promise34_ofLikeOnesTheLeast() {
    dueVintage(Kit.told("worth 5;" + THREE), 0, 15);
    dueVintage(Kit.told("worth 0 - 5;" + THREE), 0, -15);
    dueVintage(Kit.told("worth year * (15 - year);" + THREE), 7, 168);
    dueVintage(Kit.told("worth (year = 0) + (year = 30);" + THREE), 0, 3);
  }

  static void promise34_ofNobody() {
    dueVintage(new VintageJams(), 0, 0);
    dueVintage(nobodyIn(), 0, 0);
  }

  static void promise34_noLampBreaks() {
    dueVintage(Kit.told("breaks 100;worth bodied * year;" + THREE), 30, 360);
  }

  static void promise34_beyondTheLastYear() {
    dueVintage(inTheLastYear("worth year;" + Kit.car(0, 0, 0, 0, 9)), 30, 1029);
  }

  // ---- 35: ripe

  static void promise35_from0To60Years() {
    VintageJams x = Kit.told("worth year;" + Kit.car(0, 0, 0, 0, 0));
    Kit.due("now", x.ripe(0), 0);
    Kit.due("below what is now", x.ripe(-1), 0);
    Kit.due("ripe(1)", x.ripe(1), 1);
    Kit.due("ripe(60)", x.ripe(60), 60);
    Kit.due("ripe(61)", x.ripe(61), -1);
  }

  static void promise35_theLeastAndTheMost() {
    VintageJams x = Kit.told(THREE);
    Kit.due("ripe(least)", x.ripe(Kit.LEAST), 0);
    Kit.due("ripe(most)", x.ripe(Kit.MOST), -1);
  }

  static void promise35_theFirstTime() {
    VintageJams x = Kit.told("worth (year = 3) * 2 + (year = 5) * 3;" + Kit.car(0, 0, 0, 0, 0));
    Kit.due("ripe(1)", x.ripe(1), 3);
    Kit.due("ripe(2)", x.ripe(2), 3);
    Kit.due("ripe(3)", x.ripe(3), 5);
    Kit.due("ripe(4)", x.ripe(4), -1);
  }

  static void promise35_ofNobody() {
    Kit.due("ripe(0)", new VintageJams().ripe(0), 0);
    Kit.due("ripe(1)", new VintageJams().ripe(1), -1);
    Kit.due("nobody IN: ripe(1)", nobodyIn().ripe(1), -1);
  }

  static void promise35_noLampBreaks() {
    Kit.due("ripe", Kit.told("breaks 100;worth bodied * year;" + Kit.car(0, 0, 0, 0, 0, 2)).ripe(120), 60);
  }

  static void promise35_beyondTheLastYear() {
    VintageJams x = inTheLastYear("worth year;" + Kit.car(0, 0, 0, 0, 9));
    Kit.due("ripe(1059)", x.ripe(1059), 60);
    Kit.due("ripe(1060)", x.ripe(1060), -1);
  }

  // ---- 36: quiet

  static void promise36_from0To99Years() {
    Kit.due("quiet already", Kit.told(Kit.car(0, 0, 0, 0, 0)).quiet(), 0);
    Kit.due("in 1", Kit.told(Kit.car(0, 0, 0, 0, 1)).quiet(), 1);
    Kit.due("in 99", Kit.told(Kit.car(0, 0, 0, 0, 99)).quiet(), 99);
    Kit.due("in 100", Kit.told("softens year > 0;" + Kit.car(0, 0, 0, 0, 99)).quiet(), -1);
    Kit.due("never", Kit.told("softens 0;" + Kit.car(0, 0, 0, 0, 1)).quiet(), -1);
  }

  static void promise36_nobody() {
    Kit.due("an empty JAM", new VintageJams().quiet(), 0);
    Kit.due("nobody IN", nobodyIn().quiet(), 0);
  }

  static void promise36_theLoudestCountsAndWhoIsOffDoesNot() {
    VintageJams x = Kit.told(THREE);
    Kit.due("quiet", x.quiet(), 9);
    x.tow(0);
    Kit.due("quiet", x.quiet(), 5);
  }

  static void promise36_noLampBreaks() {
    Kit.due("quiet", Kit.told("breaks 100;softens bodied;" + Kit.car(0, 0, 0, 0, 99, 3)).quiet(), 33);
  }

  static void promise36_beyondTheLastYear() {
    Kit.due("quiet", inTheLastYear("softens year > 998;" + Kit.car(0, 0, 0, 0, 99)).quiet(), 99);
  }
}
