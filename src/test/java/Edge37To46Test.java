/** Edges of promises 37 to 46: WALKS, SALES, who would fetch most, ODDS, what lies there. */
public final class Edge37To46Test {
  /**
   * 4 by 3.
   *
   * <pre>
   *   . a . .
   *   . b . .
   *   . . c .
   * </pre>
   */
  private static final String WALL =
      "street 4 by 3;" + Kit.car(0, 1, 0, 0, 1) + Kit.car(1, 1, 1, 0, 1) + Kit.car(2, 2, 2, 0, 1);
  /** Of the last of eight alone WORTH is 1. */
  private static final String EIGHTH =
      Kit.eightInARow(0).replace("at 7 0 heads 0 hoots 0", "at 7 0 heads 0 hoots 1") + "worth hoot;";
  private static final int[] NO_CARS = {-1, 3, 8, Kit.LEAST, Kit.MOST};
  private static final int[] NO_CELLS = {-1, 12, 64, Kit.LEAST, Kit.MOST};

  public static void main(String[] args) {
    Kit.runEdges(Edge37To46Test.class, 37, 46);
    Kit.finish();
  }

  /** Seven CARS as a wall across, but for the last column; z (7) is at the far end behind it. */
  private static VintageJams longWay() {
    StringBuilder text = new StringBuilder("street 8 by 4;");
    for (int column = 0; column < 7; column++) {
      text.append(Kit.car(column, column, 1, 0, 0));
    }
    return Kit.told(text.append("car z at 0 3 heads 0 hoots 0;").toString());
  }

  /** c is walled in: nobody can come beside it. */
  private static VintageJams walledIn() {
    return Kit.told("street 3 by 3;" + Kit.car(0, 0, 1, 0, 0) + Kit.car(1, 1, 0, 0, 0) + Kit.car(2, 0, 0, 0, 0));
  }

  // ---- 37: walk

  static void promise37_0StepsIfTheyAreOne() {
    VintageJams x = Kit.told(WALL);
    Kit.due("walk(0, 0)", x.walk(0, 0), 0);
    Kit.due("walk(11, 11)", x.walk(11, 11), 0);
    Kit.due("a street of one CELL", Kit.told("street 1 by 1;").walk(0, 0), 0);
  }

  static void promise37_noneOfItsCellsIsOneOfACar() {
    VintageJams x = Kit.told(WALL);
    Kit.due("from a CAR", x.walk(1, 0), -1);
    Kit.due("to a CAR", x.walk(0, 1), -1);
    Kit.due("from a CAR to itself", x.walk(1, 1), -1);
    Kit.due("through a CAR", x.walk(0, 2), -1);
    x.tow(0);
    Kit.due("OFF: from there", x.walk(1, 0), 1);
    Kit.due("OFF: through there", x.walk(0, 2), 2);
    Kit.due("OFF: to itself", x.walk(1, 1), 0);
  }

  static void promise37_whatCantBe() {
    VintageJams x = Kit.told(WALL);
    for (int cell : NO_CELLS) {
      Kit.due("walk(0, " + cell + ")", x.walk(0, cell), -1);
      Kit.due("walk(" + cell + ", 0)", x.walk(cell, 0), -1);
      Kit.due("walk(" + cell + ", " + cell + ")", x.walk(cell, cell), -1);
    }
  }

  static void promise37_neverBeyondTheRimNorAcross() {
    VintageJams x = Kit.told("street 4 by 3;");
    Kit.due("from the end of a row to the next one's start", x.walk(3, 4), 4);
    Kit.due("from the first row to the last", x.walk(0, 8), 2);
    Kit.due("across", x.walk(0, 5), 2);
    x = Kit.told("street 2 by 2;" + Kit.car(0, 0, 0, 0, 0) + Kit.car(1, 1, 1, 0, 0));
    Kit.due("no way across", x.walk(1, 2), -1);
  }

  static void promise37_theFarthest() {
    VintageJams x = Kit.told("street 8 by 8;");
    Kit.due("walk(0, 63)", x.walk(0, 63), 14);
    Kit.due("walk(63, 0)", x.walk(63, 0), 14);
    Kit.due("round the wall", longWay().walk(0, 16), 16);
    Kit.due("one column", Kit.told("street 1 by 8;").walk(0, 7), 7);
    Kit.due("one row", Kit.told("street 8 by 1;").walk(7, 0), 7);
  }

  static void promise37_nothingIsDoneByThisNorByPromises38To45() {
    VintageJams x = Kit.told("breaks 40;" + WALL.substring(14));
    x.year();
    x.tow(2);
    x.year();
    x.undo();
    String before = Kit.everything(x);
    x.heir();
    x.finest();
    x.fullest();
    for (int number = -1; number <= 5; number++) {
      x.walk(0, number);
      x.window(0, number);
      x.reach(number);
      x.sale(0, number);
      x.law(number);
      x.odds(0, number, 0);
    }
    x.sale(0, 0);
    Kit.due("all is as before", Kit.everything(x), before);
  }

  // ---- 38: window

  static void promise38_0StepsBesideItAlready() {
    VintageJams x = Kit.told(WALL);
    Kit.due("window(0, 0)", x.window(0, 0), 0);
    Kit.dueLies(x, "window(0, 0)", 0);
  }

  static void promise38_eachSideIsBesideIt() {
    int[] sides = {1, 3, 5, 7};
    for (int side : sides) {
      VintageJams x = Kit.told("street 3 by 3;" + Kit.car(0, 1, 1, 0, 0));
      Kit.due("window(" + side + ", 0)", x.window(side, 0), 0);
      Kit.dueLies(x, "window(" + side + ", 0)", side);
    }
    int[] corners = {0, 2, 6, 8};
    for (int corner : corners) {
      VintageJams x = Kit.told("street 3 by 3;" + Kit.car(0, 1, 1, 0, 0));
      Kit.due("window(" + corner + ", 0)", x.window(corner, 0), 1);
    }
  }

  static void promise38_alongTheFirstAndTheLastRow() {
    VintageJams x = Kit.told("street 4 by 1;" + Kit.car(0, 3, 0, 0, 0));
    Kit.due("one row", x.window(0, 0), 2);
    Kit.dueLies(x, "one row", 0, 1, 2);
    x = Kit.told("street 1 by 4;" + Kit.car(0, 0, 3, 0, 0));
    Kit.due("one column", x.window(0, 0), 2);
    Kit.dueLies(x, "one column", 0, 1, 2);
    x = Kit.told("street 8 by 8;" + Kit.car(0, 7, 7, 0, 0));
    Kit.due("the last row", x.window(56, 0), 6);
    Kit.dueLies(x, "the last row", 56, 57, 58, 59, 60, 61, 62);
  }

  static void promise38_noneFromACarAndThenNothingLiesThere() {
    VintageJams x = Kit.told(WALL);
    x.order();
    Kit.due("from another one", x.window(1, 1), -1);
    Kit.dueLies(x, "from another one");
    x.order();
    Kit.due("from its own CELL", x.window(1, 0), -1);
    Kit.dueLies(x, "from its own CELL");
  }

  static void promise38_noneIfThereIsNoWayAndThenNothingLiesThere() {
    VintageJams x = walledIn();
    x.order();
    Kit.due("walled in", x.window(8, 2), -1);
    Kit.dueLies(x, "walled in");
    x = Kit.told("street 5 by 1;" + Kit.car(0, 1, 0, 0, 0) + Kit.car(1, 3, 0, 0, 0));
    x.order();
    Kit.due("cut off", x.window(0, 1), -1);
    Kit.dueLies(x, "cut off");
    // across is not beside, nor is the next row's start beside a row's end
    x = Kit.told("street 2 by 2;" + Kit.car(0, 0, 0, 0, 0) + Kit.car(1, 1, 0, 0, 0) + Kit.car(2, 0, 1, 0, 0));
    Kit.due("across", x.window(3, 0), -1);
    x = Kit.told("street 3 by 2;" + Kit.car(0, 2, 0, 0, 0) + Kit.car(1, 1, 0, 0, 0) + Kit.car(2, 2, 1, 0, 0));
    Kit.due("the next row's start", x.window(3, 0), -1);
  }

  static void promise38_offOrWhatCantBeAndThenNothingLiesThere() {
    VintageJams x = Kit.told(WALL);
    for (int cell : NO_CELLS) {
      x.order();
      Kit.due("window(" + cell + ", 0)", x.window(cell, 0), -1);
      Kit.dueLies(x, "window(" + cell + ", 0)");
    }
    for (int car : NO_CARS) {
      x.order();
      Kit.due("window(0, " + car + ")", x.window(0, car), -1);
      Kit.dueLies(x, "window(0, " + car + ")");
    }
    x.tow(0);
    x.order();
    Kit.due("OFF", x.window(0, 0), -1);
    Kit.dueLies(x, "OFF");
  }

  static void promise38_16CellsLieThereAtMost() {
    VintageJams x = longWay();
    Kit.due("17 CELLS", x.window(0, 7), 16);
    Kit.dueLies(x, "17 CELLS", 0, 1, 2, 3, 4, 5, 6, 7, 15, 23, 22, 21, 20, 19, 18, 17);
    Kit.due("16 CELLS", x.window(1, 7), 15);
    Kit.dueLies(x, "16 CELLS", 1, 2, 3, 4, 5, 6, 7, 15, 23, 22, 21, 20, 19, 18, 17, 16);
    Kit.due("15 CELLS", x.window(2, 7), 14);
    Kit.dueLies(x, "15 CELLS", 2, 3, 4, 5, 6, 7, 15, 23, 22, 21, 20, 19, 18, 17, 16);
  }

  static void promise38_ofLikeOnesTheFirstCellByCell() {
    VintageJams x = Kit.told("street 3 by 3;" + Kit.car(0, 2, 2, 0, 0));
    Kit.due("window(0, 0)", x.window(0, 0), 3);
    Kit.dueLies(x, "window(0, 0)", 0, 1, 2, 5);
    x = Kit.told("street 3 by 3;" + Kit.car(0, 0, 0, 0, 0));
    Kit.due("window(8, 0)", x.window(8, 0), 3);
    Kit.dueLies(x, "window(8, 0)", 8, 5, 2, 1);
    // two windows as near as one another: the way of the lesser CELLS
    x = Kit.told("street 3 by 3;" + Kit.car(0, 1, 1, 0, 0));
    Kit.due("window(6, 0)", x.window(6, 0), 1);
    Kit.dueLies(x, "window(6, 0)", 6, 3);
    Kit.due("window(2, 0)", x.window(2, 0), 1);
    Kit.dueLies(x, "window(2, 0)", 2, 1);
  }

  // ---- 39: reach

  static void promise39_0IfACarIsThere() {
    VintageJams x = Kit.told(WALL);
    Kit.due("reach(1)", x.reach(1), 0);
    x.tow(0);
    Kit.due("OFF: reach(1)", x.reach(1), 10);
  }

  static void promise39_noSuchCell() {
    VintageJams x = Kit.told(WALL);
    for (int cell : NO_CELLS) {
      Kit.due("reach(" + cell + ")", x.reach(cell), -1);
    }
  }

  static void promise39_from1ToAll64() {
    Kit.due("a street of one CELL", Kit.told("street 1 by 1;").reach(0), 1);
    VintageJams x = Kit.told("street 2 by 2;" + Kit.car(0, 0, 0, 0, 0) + Kit.car(1, 1, 1, 0, 0));
    Kit.due("itself alone", x.reach(1), 1);
    Kit.due("itself alone", x.reach(2), 1);
    x = Kit.told("street 8 by 8;");
    Kit.due("the first", x.reach(0), 64);
    Kit.due("the last", x.reach(63), 64);
    Kit.due("beyond", x.reach(64), -1);
    Kit.due("a full street", Kit.told(Kit.eightInARow(0)).reach(7), 0);
  }

  // ---- 40: sale

  /** WORTH is HOOT less 20. */
  private static VintageJams two(int worth, int other) {
    return Kit.told("worth hoot - 20;" + Kit.car(0, 0, 0, 0, worth + 20) + Kit.car(1, 1, 0, 0, other + 20));
  }

  private static void dueSale(int worth, int other, int count, int asked, int otherAsked) {
    VintageJams x = two(worth, other);
    String call = "sale of " + worth + ", " + other;
    Kit.due(call, x.sale(0, 1), count);
    Kit.dueLies(x, call, asked, otherAsked);
  }

  static void promise40_bothOneOffOrNoneSuchAndThenNothingLiesThere() {
    VintageJams x = two(5, 5);
    int[][] wrong = {{0, 0}, {1, 1}, {0, 2}, {2, 0}, {-1, 0}, {0, -1}, {2, 3}, {0, Kit.MOST}, {Kit.LEAST, 0}};
    for (int[] pair : wrong) {
      x.order();
      Kit.due("sale(" + pair[0] + ", " + pair[1] + ")", x.sale(pair[0], pair[1]), -1);
      Kit.dueLies(x, "sale(" + pair[0] + ", " + pair[1] + ")");
    }
    x.tow(1);
    x.order();
    Kit.due("the other one is OFF", x.sale(0, 1), -1);
    Kit.dueLies(x, "the other one is OFF");
    x.order();
    Kit.due("the first one is OFF", x.sale(1, 0), -1);
    Kit.dueLies(x, "the first one is OFF");
  }

  static void promise40_nobodyCanGetMoreThan0() {
    dueSale(-1, -1, 100, 0, 0);
    dueSale(0, 0, 100, 0, 0);
    dueSale(0, -1, 100, 0, 0);
    dueSale(-1, 0, 100, 0, 0);
  }

  static void promise40_itIsTakenIfItIsNotBelow0() {
    // all that it is worth can be asked for, and not one more
    dueSale(5, -1, 10, 5, 0);
    dueSale(-1, 5, 10, 0, 5);
    dueSale(1, -1, 10, 1, 0);
  }

  static void promise40_9IsTheMostThatIsAsked() {
    dueSale(9, -1, 10, 9, 0);
    dueSale(10, -1, 10, 9, 0);
    dueSale(99 - 20, -1, 10, 9, 0);
    dueSale(-1, 79, 10, 0, 9);
  }

  static void promise40_ofLikeOnesTheFirstOneSells() {
    // at 4 and 0 both are 6 above: the dearer one sells all the same
    VintageJams x = two(10, 6);
    Kit.due("sale(0, 1)", x.sale(0, 1), 2);
    Kit.dueLies(x, "sale(0, 1)", 4, 0);
    // asked for the other way round the dearer one has to stay one below
    Kit.due("sale(1, 0)", x.sale(1, 0), 2);
    Kit.dueLies(x, "sale(1, 0)", 0, 3);
  }

  static void promise40_theFirstRestHasTheLeastNumbers() {
    dueSale(1, 0, 10, 1, 0);
    // whatever is asked for what is worth 0, it gets 0; by 0 it bars the other one, by more it lets it get 1
    dueSale(0, 1, 19, 0, 0);
    dueSale(1, 1, 11, 0, 0);
  }

  // ---- 41: heir

  static void promise41_noneIfNoneIsIn() {
    Kit.due("an empty JAM", new VintageJams().heir(), -1);
    VintageJams x = Kit.told(Kit.car(0, 0, 0, 0, 0));
    Kit.due("the only one", x.heir(), 0);
    x.tow(0);
    Kit.due("nobody IN", x.heir(), -1);
  }

  static void promise41_ofLikeOnesTheFirst() {
    VintageJams x = Kit.told(Kit.eightInARow(0) + "worth 7;");
    Kit.due("heir", x.heir(), 0);
    x.tow(0);
    Kit.due("heir", x.heir(), 1);
  }

  static void promise41_theLeastAndTheMostPrice() {
    // without the last one nothing is left of 9999
    VintageJams x = Kit.told("worth (lane = 1) * 9999;" + Kit.car(0, 0, 0, 0, 0) + Kit.car(1, 0, 1, 0, 0));
    Kit.due("the most", x.heir(), 1);
    x = Kit.told("worth hoot - 100;" + Kit.car(0, 0, 0, 0, 1) + Kit.car(1, 1, 0, 0, 2));
    Kit.due("all below 0", x.heir(), 1);
  }

  static void promise41_manyIsOneLessThen() {
    // 0 alone would be worth 5, 1 alone 100: without 1 the PRICE is least, though 0 is worth more now
    VintageJams x = Kit.told("worth (many = 2) * (lane = 0) * 50 + (many = 1) * (5 + (lane = 1) * 95);"
        + Kit.car(0, 0, 0, 0, 0) + Kit.car(1, 0, 1, 0, 0));
    Kit.due("finest", x.finest(), 0);
    Kit.due("heir", x.heir(), 1);
  }

  static void promise41_allOthersCountTogether() {
    // without the one of 8 there are 12 left, without the others 13 and 15
    int[][] orders = {{5, 7, 8}, {8, 7, 5}, {7, 8, 5}};
    int[] due = {2, 0, 1};
    for (int i = 0; i < 3; i++) {
      VintageJams x = Kit.told("worth hoot;" + Kit.car(0, 0, 0, 0, orders[i][0]) + Kit.car(1, 1, 0, 0, orders[i][1])
          + Kit.car(2, 2, 0, 0, orders[i][2]));
      Kit.due("heir", x.heir(), due[i]);
    }
  }

  static void promise41_theEighthCar() {
    Kit.due("heir", Kit.told(EIGHTH).heir(), 7);
  }

  // ---- 42: finest

  static void promise42_noneIfNoneIsIn() {
    Kit.due("an empty JAM", new VintageJams().finest(), -1);
    VintageJams x = Kit.told(Kit.car(0, 0, 0, 0, 0));
    Kit.due("the only one", x.finest(), 0);
    x.tow(0);
    Kit.due("nobody IN", x.finest(), -1);
  }

  static void promise42_ofLikeOnesTheFirst() {
    VintageJams x = Kit.told(Kit.car(0, 0, 0, 0, 5) + Kit.car(1, 1, 0, 0, 3) + Kit.car(2, 2, 0, 0, 3));
    Kit.due("finest", x.finest(), 1);
    x.tow(1);
    Kit.due("finest", x.finest(), 2);
  }

  static void promise42_allAtTheLeastWorth() {
    Kit.due("finest", Kit.told("worth 0 - 9999;" + Kit.car(0, 0, 0, 0, 5) + Kit.car(1, 1, 0, 0, 3)).finest(), 0);
  }

  static void promise42_theEighthCar() {
    Kit.due("finest", Kit.told(EIGHTH).finest(), 7);
  }

  // ---- 43: fullest

  static void promise43_nobody() {
    Kit.due("an empty JAM", new VintageJams().fullest(), 0);
    VintageJams x = Kit.told(Kit.car(0, 0, 5, 0, 0));
    Kit.due("one", x.fullest(), 5);
    x.tow(0);
    Kit.due("nobody IN", x.fullest(), 0);
  }

  static void promise43_ofLikeOnesTheFirst() {
    Kit.due("fullest", Kit.told(Kit.car(0, 0, 4, 0, 0) + Kit.car(1, 0, 2, 0, 0)).fullest(), 2);
  }

  static void promise43_theFirstAndTheLastRow() {
    Kit.due("the first", Kit.told(Kit.eightInARow(0)).fullest(), 0);
    VintageJams x =
        Kit.told("street 2 by 8;" + Kit.car(0, 0, 0, 0, 0) + Kit.car(1, 0, 7, 0, 0) + Kit.car(2, 1, 7, 0, 0));
    Kit.due("the last", x.fullest(), 7);
  }

  static void promise43_theEighthCarCounts() {
    // two in the first row, two and the eighth in the last
    String text = "street 8 by 8;" + Kit.car(0, 0, 0, 0, 0) + Kit.car(1, 1, 0, 0, 0) + Kit.car(2, 0, 7, 0, 0)
        + Kit.car(3, 1, 7, 0, 0);
    for (int i = 4; i < 7; i++) {
      text += Kit.car(i, i, i - 2, 0, 0);
    }
    Kit.due("fullest", Kit.told(text).fullest(), 0);
    Kit.due("fullest", Kit.told(text + Kit.car(7, 7, 7, 0, 0)).fullest(), 7);
  }

  // ---- 44: law

  static void promise44_headingsFrom0To3() {
    VintageJams x = Kit.told(Kit.eightInARow(0));
    Kit.due("law(0)", x.law(0), 8);
    Kit.due("law(1)", x.law(1), 1);
    Kit.due("law(2)", x.law(2), 8);
    Kit.due("law(3)", x.law(3), 1);
  }

  static void promise44_another() {
    VintageJams x = Kit.told(Kit.eightInARow(0));
    int[] wrong = {-1, 4, Kit.LEAST, Kit.MOST};
    for (int heading : wrong) {
      Kit.due("law(" + heading + ")", x.law(heading), -1);
    }
  }

  static void promise44_nobodyOrOff() {
    Kit.due("an empty JAM", new VintageJams().law(0), 0);
    VintageJams x = Kit.told(Kit.eightInARow(0));
    x.tow(0);
    Kit.due("law(0)", x.law(0), 7);
    for (int car = 1; car < 8; car++) {
      x.tow(car);
    }
    Kit.due("nobody IN", x.law(0), 0);
  }

  // ---- 45: odds

  private static void dueOdds(int breaks, int n, int upper, int lower) {
    VintageJams x = Kit.told("breaks " + breaks + ";" + Kit.car(0, 0, 0, 0, 0, 0));
    Kit.due("breaks " + breaks + ": odds(0, " + n + ", 0)", x.odds(0, n, 0), upper);
    Kit.due("breaks " + breaks + ": odds(0, " + n + ", 1)", x.odds(0, n, 1), lower);
  }

  static void promise45_0YearsAreSure() {
    int[] all = {0, 1, 50, 99, 100};
    for (int breaks : all) {
      dueOdds(breaks, 0, 1, 1);
    }
  }

  static void promise45_0Of1IfAllBreak() {
    dueOdds(100, 1, 0, 1);
    dueOdds(100, 4, 0, 1);
  }

  static void promise45_1Of1IfNoneBreaks() {
    dueOdds(0, 1, 1, 1);
    dueOdds(0, 4, 1, 1);
  }

  static void promise45_4YearsAtMostInLowestTerms() {
    dueOdds(1, 4, 96059601, 100000000);
    dueOdds(99, 4, 1, 100000000);
    dueOdds(50, 4, 1, 16);
    dueOdds(40, 2, 9, 25);
    dueOdds(75, 3, 1, 64);
    dueOdds(20, 1, 4, 5);
  }

  static void promise45_whatCantBe() {
    VintageJams x = Kit.told("breaks 40;" + Kit.car(0, 0, 0, 0, 0));
    int[] wrongYears = {-1, 5, Kit.LEAST, Kit.MOST};
    for (int n : wrongYears) {
      Kit.due("odds(0, " + n + ", 0)", x.odds(0, n, 0), -1);
      Kit.due("odds(0, " + n + ", 1)", x.odds(0, n, 1), -1);
    }
    int[] wrongParts = {-1, 2, Kit.LEAST, Kit.MOST};
    for (int part : wrongParts) {
      Kit.due("odds(0, 1, " + part + ")", x.odds(0, 1, part), -1);
    }
    int[] wrongCars = {-1, 1, 8, Kit.LEAST, Kit.MOST};
    for (int car : wrongCars) {
      Kit.due("odds(" + car + ", 1, 0)", x.odds(car, 1, 0), -1);
    }
    x.tow(0);
    Kit.due("OFF", x.odds(0, 1, 0), -1);
    Kit.due("OFF, 0 YEARS", x.odds(0, 0, 1), -1);
  }

  static void promise45_whateverTheSeedIs() {
    for (int draw = 0; draw < 1000; draw += 37) {
      VintageJams x = Kit.told("breaks 40;draw " + draw + ";" + Kit.car(0, 0, 0, 0, 0) + Kit.car(1, 1, 0, 0, 0));
      Kit.due("odds(0, 2, 0)", x.odds(0, 2, 0), 9);
      Kit.due("odds(1, 2, 1)", x.odds(1, 2, 1), 25);
    }
  }

  // ---- 46: lies

  static void promise46_nothingLiesThere() {
    VintageJams x = new VintageJams();
    int[] all = {-1, 0, 1, 15, 16, Kit.LEAST, Kit.MOST};
    for (int i : all) {
      Kit.due("lies(" + i + ")", x.lies(i), -1);
    }
  }

  static void promise46_fromTheFirstToTheLast() {
    VintageJams x = Kit.told(Kit.eightInARow(1));
    x.order();
    Kit.due("lies(-1)", x.lies(-1), -1);
    Kit.due("lies(0)", x.lies(0), 7);
    Kit.due("lies(7)", x.lies(7), 0);
    Kit.due("lies(8)", x.lies(8), -1);
    Kit.due("lies(least)", x.lies(Kit.LEAST), -1);
    Kit.due("lies(most)", x.lies(Kit.MOST), -1);
  }

  static void promise46_16OfThem() {
    VintageJams x = longWay();
    x.window(1, 7);
    Kit.due("lies(15)", x.lies(15), 16);
    Kit.due("lies(16)", x.lies(16), -1);
    x.window(0, 7);
    Kit.due("lies(15)", x.lies(15), 17);
    Kit.due("lies(16)", x.lies(16), -1);
  }

  static void promise46_whatLiesThereStaysTillSomethingElseDoes() {
    VintageJams x = Kit.told(WALL);
    x.window(0, 2);
    x.tow(2);
    x.year();
    x.undo();
    x.redo();
    x.image(0);
    x.back(0);
    x.walk(0, 4);
    x.reach(0);
    x.ring(0);
    Kit.dueLies(x, "window(0, 2)", 0, 4, 8, 9);
    x.sale(0, 1);
    Kit.dueLies(x, "sale(0, 1)", 0, 0);
  }
}
