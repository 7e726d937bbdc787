/** Edges of promises 6 to 16: CARS, CELLS, WORTH, the ACTS, UNDO and REDO. */
public final class Edge06To16Test {
  private static final int[] NO_CARS = {-1, 3, 8, Kit.LEAST, Kit.MOST};

  /**
   * Three CARS, 4 by 3: a is BARRED by b, b by c, c by none; c's BODY is 9.
   *
   * <pre>
   *   . . c .
   *   a . b .
   *   . . . .
   * </pre>
   */
  private static final String THREE =
      "street 4 by 3;" + Kit.car(0, 0, 1, 1, 9, 4) + Kit.car(1, 2, 1, 0, 5) + Kit.car(2, 2, 0, 3, 2, 9);

  public static void main(String[] args) {
    Kit.runEdges(Edge06To16Test.class, 6, 16);
    Kit.finish();
  }

  /** THREE with an ACT to undo and one to redo, so that an ACT that should not be is seen. */
  private static VintageJams three() {
    VintageJams x = Kit.told(THREE);
    x.year();
    x.year();
    x.undo();
    return x;
  }

  private static int step(int seed) {
    return (seed * 137 + 71) % 1000;
  }

  private static VintageJams valued(String formula) {
    return Kit.told("worth " + formula + ";" + Kit.car(0, 2, 3, 0, 7, 5));
  }

  // ---- 6: car

  static void promise06_carsThatAreNoneSuch() {
    VintageJams x = Kit.told(THREE);
    for (int car : NO_CARS) {
      for (int what = 0; what <= 5; what++) {
        Kit.due("car(" + car + ", " + what + ")", x.car(car, what), -2);
      }
    }
    Kit.due("the last one", x.car(2, 0), 2);
  }

  static void promise06_anotherWhat() {
    VintageJams x = Kit.told(THREE);
    int[] wrong = {-1, 6, Kit.LEAST, Kit.MOST};
    for (int what : wrong) {
      Kit.due("car(0, " + what + ")", x.car(0, what), -2);
    }
  }

  static void promise06_oneThatIsOff() {
    VintageJams x = Kit.told(THREE);
    x.tow(1);
    int[] due = {-1, 0, 5, 1, 0, 0};
    for (int what = 0; what <= 5; what++) {
      Kit.due("car(1, " + what + ")", x.car(1, what), due[what]);
    }
    Kit.due("it bars nobody: car(0, 4)", x.car(0, 4), 0);
    Kit.due("it is barred by nobody: car(2, 5)", x.car(2, 5), 0);
  }

  static void promise06_aLineGoesToTheRimAndNotBeyond() {
    // in each corner, one at each end of its row and its column: nobody is ahead of those who head out
    String text = "street 3 by 3;";
    int[][] corners = {{0, 0}, {2, 0}, {0, 2}, {2, 2}};
    for (int i = 0; i < 4; i++) {
      text += Kit.car(i, corners[i][0], corners[i][1], 0, 0);
    }
    int[][] due = {{0, 2, 4, 0}, {0, 0, 8, 1}, {1, 8, 0, 0}, {2, 0, 0, 4}};
    for (int i = 0; i < 4; i++) {
      VintageJams x = Kit.told(text);
      for (int heading = 0; heading < 4; heading++) {
        x.steer(i, heading);
        Kit.due("who bars " + i + " heading " + heading, x.car(i, 4), due[i][heading]);
      }
    }
  }

  static void promise06_aRowDoesNotGoOnInTheNext() {
    VintageJams x = Kit.told("street 3 by 2;" + Kit.car(0, 1, 0, 1, 0) + Kit.car(1, 0, 1, 3, 0));
    Kit.due("who bars the one of the first row", x.car(0, 4), 0);
    Kit.due("who bars the one of the second row", x.car(1, 4), 0);
  }

  static void promise06_allOnALineBarAndNotItself() {
    VintageJams x = Kit.told(Kit.eightInARow(1));
    for (int car = 0; car < 8; car++) {
      Kit.due("who bars " + car, x.car(car, 4), 255 & -(2 << car));
      Kit.due("whom bars " + car, x.car(car, 5), (1 << car) - 1);
    }
  }

  static void promise06_whomTheFirstAndTheEighthBar() {
    VintageJams x = Kit.told(Kit.eightInARow(1));
    Kit.due("whom the eighth bars", x.car(7, 5), 127);
    x = Kit.told(Kit.eightInARow(3));
    Kit.due("whom the first bars", x.car(0, 5), 254);
    Kit.due("who bars the eighth", x.car(7, 4), 127);
  }

  static void promise06_aStreetOfOneCell() {
    VintageJams x = Kit.told("street 1 by 1;" + Kit.car(0, 0, 0, 0, 0));
    for (int heading = 1; heading < 4; heading++) {
      Kit.due("steer", x.steer(0, heading), 0);
    }
    Kit.due("who bars it", x.car(0, 4), 0);
    Kit.due("whom it bars", x.car(0, 5), 0);
  }

  // ---- 7: spot

  static void promise07_theFirstAndTheLastCell() {
    VintageJams x = Kit.told("street 3 by 5;" + Kit.car(0, 2, 4, 0, 0) + Kit.car(1, 0, 0, 0, 0));
    Kit.due("spot(0)", x.spot(0), 1);
    Kit.due("spot(14)", x.spot(14), 0);
    Kit.due("nobody: spot(1)", x.spot(1), -1);
    Kit.due("nobody: spot(13)", x.spot(13), -1);
  }

  static void promise07_cellsThatAreNoneSuch() {
    VintageJams x = Kit.told("street 3 by 5;" + Kit.car(0, 2, 4, 0, 0));
    int[] wrong = {-1, 15, 64, Kit.LEAST, Kit.MOST};
    for (int cell : wrong) {
      Kit.due("spot(" + cell + ")", x.spot(cell), -1);
    }
    // an OFF one's CELL is told as -1, which is no CELL
    x.tow(0);
    Kit.due("OFF: spot(-1)", x.spot(-1), -1);
    Kit.due("OFF: spot(14)", x.spot(14), -1);
  }

  // ---- 8: worth

  static void promise08_offOrNoneSuch() {
    VintageJams x = Kit.told(THREE);
    for (int car : NO_CARS) {
      Kit.due("worth(" + car + ")", x.worth(car), Kit.NO_PRICE);
    }
    Kit.due("IN", x.worth(0), -9);
    x.tow(0);
    Kit.due("OFF", x.worth(0), Kit.NO_PRICE);
  }

  static void promise08_9999AtMost() {
    Kit.due("9999", valued("9999").worth(0), 9999);
    Kit.due("9999 + 1", valued("9999 + 1").worth(0), 9999);
    Kit.due("9998 + 1", valued("9998 + 1").worth(0), 9999);
    Kit.due("9999 * 9999", valued("9999 * 9999").worth(0), 9999);
    Kit.due("only what comes of it", valued("(9999 + 9999) / 2").worth(0), 9999);
    Kit.due("only what comes of it", valued("9999 * 3 - 9999 * 2 - 1").worth(0), 9998);
  }

  static void promise08_minus9999AtLeast() {
    Kit.due("0 - 9999", valued("0 - 9999").worth(0), -9999);
    Kit.due("0 - 9999 - 1", valued("0 - 9999 - 1").worth(0), -9999);
    Kit.due("0 - 9998", valued("0 - 9998").worth(0), -9998);
    Kit.due("0 - 9999 * 9999", valued("0 - 9999 * 9999").worth(0), -9999);
  }

  static void promise08_theDefaultByTheLeastAndTheMost() {
    VintageJams x = Kit.told(Kit.car(0, 0, 0, 0, 99, 0) + Kit.car(1, 1, 0, 0, 0, 9));
    Kit.due("BODY 0, HOOT 99", x.worth(0), -99);
    Kit.due("BODY 9, HOOT 0, year 0", x.worth(1), 0);
    x.year();
    Kit.due("BODY 0, HOOT 98", x.worth(0), -98);
    Kit.due("BODY 9, HOOT 0, year 1", x.worth(1), 9);
  }

  static void promise08_by0Is0() {
    Kit.due("7 / 0", valued("7 / 0").worth(0), 0);
    Kit.due("7 % 0", valued("7 % 0").worth(0), 0);
    Kit.due("0 / 0", valued("0 / 0").worth(0), 0);
    Kit.due("by a year of 0", valued("7 / year + 3").worth(0), 3);
    Kit.due("by a year of 0", valued("7 % year + 3").worth(0), 3);
  }

  static void promise08_divisionIsCutAndItsRestHasTheSignOfTheFirst() {
    Kit.due("(0-7) / 2", valued("(0-7) / 2").worth(0), -3);
    Kit.due("7 / (0-2)", valued("7 / (0-2)").worth(0), -3);
    Kit.due("(0-7) % 2", valued("(0-7) % 2").worth(0), -1);
    Kit.due("7 % (0-2)", valued("7 % (0-2)").worth(0), 1);
  }

  static void promise08_intsWrap() {
    String least = "(0 - 1024 * 1024 * 2048)";
    Kit.due("one less than the least", valued("(" + least + " - 1) / 1024 / 1024").worth(0), 2047);
    Kit.due("one more than the most", valued("(" + least + " - 1 + 1) / 1024 / 1024").worth(0), -2048);
    Kit.due("the product", valued("1024 * 1024 * 4096").worth(0), 0);
    Kit.due("the least by -1", valued(least + " / (0 - 1) < 0").worth(0), 1);
    Kit.due("its rest by -1", valued(least + " % (0 - 1)").worth(0), 0);
  }

  static void promise08_relationsAndOrNotAre1Or0OfWhatIsNot0() {
    String[] ones = {"1 < 2", "2 > 1", "2 = 2", "5 and (0-5)", "0 or (0-5)", "not 0", "not 2 < 2", "not 2 > 2"};
    for (String formula : ones) {
      Kit.due(formula, valued(formula).worth(0), 1);
    }
    String[] zeros = {"2 < 2", "2 > 2", "2 = 3", "5 and 0", "0 and 5", "0 or 0", "not 5", "not (0-5)"};
    for (String formula : zeros) {
      Kit.due(formula, valued(formula).worth(0), 0);
    }
  }

  static void promise08_wordsAtTheirLeastAndMost() {
    VintageJams x = Kit.told("street 1 by 8;worth hoot * 100 + bodied * 10 + lane;"
        + Kit.car(0, 0, 0, 0, 0, 0) + Kit.car(1, 0, 7, 0, 99, 9));
    Kit.due("the least", x.worth(0), 0);
    Kit.due("the most", x.worth(1), 9997);
    x = Kit.told(Kit.eightInARow(0) + "worth many;");
    Kit.due("many of eight", x.worth(7), 8);
    for (int car = 0; car < 7; car++) {
      x.tow(car);
    }
    Kit.due("many of one", x.worth(7), 1);
  }

  // ---- 9: year

  static void promise09_hootIsLessBy0AtLeast() {
    VintageJams x = Kit.told("softens 0 - 1;" + Kit.car(0, 0, 0, 0, 5));
    x.year();
    Kit.due("HOOT", x.car(0, 2), 5);
    x = Kit.told("softens 0;" + Kit.car(0, 0, 0, 0, 5));
    x.year();
    Kit.due("HOOT", x.car(0, 2), 5);
  }

  static void promise09_hootIsLessByAllThereIsAtMost() {
    VintageJams x = Kit.told("softens hoot;" + Kit.car(0, 0, 0, 0, 99));
    x.year();
    Kit.due("just all", x.car(0, 2), 0);
    x = Kit.told("softens hoot + 1;" + Kit.car(0, 0, 0, 0, 5));
    x.year();
    Kit.due("one more than all", x.car(0, 2), 0);
    x = Kit.told("softens hoot - 1;" + Kit.car(0, 0, 0, 0, 5));
    x.year();
    Kit.due("one less than all", x.car(0, 2), 1);
    x = Kit.told("softens 9999 * 9999;" + Kit.car(0, 0, 0, 0, 0));
    x.year();
    Kit.due("0 stays 0", x.car(0, 2), 0);
  }

  static void promise09_allSoftensByWhatWasAheadOfTheYear() {
    VintageJams x = Kit.told("breaks 100;softens bodied + year;"
        + Kit.car(0, 0, 0, 0, 50, 2) + Kit.car(1, 1, 0, 0, 50, 3));
    x.year();
    Kit.due("by year 0 and the BODY that was", x.car(0, 2), 48);
    Kit.due("by year 0 and the BODY that was", x.car(1, 2), 47);
    x.year();
    Kit.due("by year 1 and the BODY that was", x.car(0, 2), 48 - 2);
  }

  static void promise09_aLampBreaksIfTheRestIsLessThanBreaks() {
    // 0 becomes 71, then 9798: SEEDS of 71 and 798, rests of 71 and 98
    String two = Kit.car(0, 0, 0, 0, 0, 5) + Kit.car(1, 1, 0, 0, 0, 5);
    int[][] due = {{0, 0}, {71, 0}, {72, 1}, {98, 1}, {99, 3}, {100, 3}};
    for (int[] row : due) {
      VintageJams x = Kit.told("breaks " + row[0] + ";" + two);
      Kit.due("breaks " + row[0], x.year(), row[1]);
      Kit.due("BODY", x.car(0, 3), 5 - (row[1] & 1));
      Kit.due("BODY", x.car(1, 3), 5 - (row[1] >> 1));
    }
    // 17 * 137 + 71 = 2400: a rest of 0
    Kit.due("a rest of 0, breaks 1", Kit.told("draw 17;breaks 1;" + Kit.car(0, 0, 0, 0, 0)).year(), 1);
    Kit.due("a rest of 0, breaks 0", Kit.told("draw 17;breaks 0;" + Kit.car(0, 0, 0, 0, 0)).year(), 0);
  }

  static void promise09_lampsOfBody0AreToldToo() {
    VintageJams x = Kit.told("breaks 100;" + Kit.car(0, 0, 0, 0, 0, 0) + Kit.car(1, 1, 0, 0, 0, 1));
    Kit.due("year", x.year(), 3);
    Kit.due("BODY 0 stays", x.car(0, 3), 0);
    Kit.due("BODY 1 is 0", x.car(1, 3), 0);
    Kit.due("year", x.year(), 3);
    Kit.due("BODY 0 stays", x.car(1, 3), 0);
  }

  static void promise09_allEightLampsBreak() {
    VintageJams x = Kit.told(Kit.eightInARow(0) + "breaks 100;");
    Kit.due("year", x.year(), 255);
  }

  static void promise09_allEightSoften() {
    VintageJams x = Kit.told(Kit.eightInARow(0).replace("hoots 0", "hoots 5 body 3") + "breaks 100;");
    x.year();
    for (int car = 0; car < 8; car++) {
      Kit.due("HOOT of " + car, x.car(car, 2), 4);
      Kit.due("BODY of " + car, x.car(car, 3), 2);
    }
    Kit.due("noise", x.noise(), 32);
  }

  static void promise09_theSeedIsModulo1000() {
    int[] draws = {0, 1, 7, 500, 999};
    for (int draw : draws) {
      VintageJams x = Kit.told("draw " + draw + ";" + Kit.car(0, 0, 0, 0, 0) + Kit.car(1, 1, 0, 0, 0));
      x.year();
      Kit.due("the SEED behind " + draw, x.about(5), step(step(draw)));
    }
  }

  static void promise09_whoIsOffDoesNotDrawOrSoften() {
    VintageJams x = Kit.told("draw 7;breaks 100;" + Kit.car(0, 0, 0, 0, 9, 5) + Kit.car(1, 1, 0, 0, 9, 5));
    x.tow(0);
    Kit.due("year", x.year(), 2);
    Kit.due("HOOT", x.car(0, 2), 9);
    Kit.due("BODY", x.car(0, 3), 5);
    Kit.due("the SEED", x.about(5), step(7));
    x.tow(1);
    Kit.due("nobody IN", x.year(), 0);
    Kit.due("the SEED stays", x.about(5), step(7));
    Kit.due("the year goes up", x.about(4), 2);
  }

  static void promise09_anEmptyJamHasYearsToo() {
    VintageJams x = new VintageJams();
    Kit.due("year", x.year(), 0);
    Kit.due("about(4)", x.about(4), 1);
    Kit.due("an ACT", x.about(6), 1);
  }

  /** More calls than an object is used for: no shorter way leads to the last year. */
  static void promise09_noneBehind999OfThem() {
    VintageJams x = Kit.told("draw 3;breaks 50;" + Kit.car(0, 0, 0, 0, 99, 9));
    for (int i = 0; i < 998; i++) {
      x.year();
    }
    Kit.due("the 999th", x.year() >= 0, true);
    Kit.due("about(4)", x.about(4), 999);
    x.polish(0);
    x.undo();
    String before = Kit.everything(x);
    Kit.due("year", x.year(), -1);
    Kit.due("nothing is done", Kit.everything(x), before);
    x.undo();
    Kit.due("one taken back", x.year() >= 0, true);
    Kit.due("and no more", x.year(), -1);
  }

  // ---- 10: let

  static void promise10_barredOffOrNoneSuchDoesNothing() {
    VintageJams x = three();
    String before = Kit.everything(x);
    Kit.due("BARRED: let(0)", x.let(0), -1);
    Kit.due("BARRED: let(1)", x.let(1), -1);
    for (int car : NO_CARS) {
      Kit.due("let(" + car + ")", x.let(car), -1);
    }
    Kit.due("nothing is done", Kit.everything(x), before);
    x.tow(2);
    before = Kit.everything(x);
    Kit.due("OFF: let(2)", x.let(2), -1);
    Kit.due("nothing is done", Kit.everything(x), before);
  }

  static void promise10_oneByOneDownToNobody() {
    VintageJams x = Kit.told(Kit.eightInARow(1));
    for (int car = 7; car >= 0; car--) {
      Kit.due("let(" + car + ")", x.let(car), car);
      Kit.due("IN", x.about(3), (1 << car) - 1);
      Kit.due("ACTS", x.about(6), 8 - car);
    }
    Kit.due("let(0)", x.let(0), -1);
  }

  // ---- 11: tow

  static void promise11_offOrNoneSuchDoesNothing() {
    VintageJams x = three();
    x.tow(2);
    x.undo();
    x.tow(1);
    String before = Kit.everything(x);
    Kit.due("OFF: tow(1)", x.tow(1), -1);
    for (int car : NO_CARS) {
      Kit.due("tow(" + car + ")", x.tow(car), -1);
    }
    Kit.due("nothing is done", Kit.everything(x), before);
  }

  static void promise11_barredOrNot() {
    VintageJams x = Kit.told(THREE);
    Kit.due("BARRED: tow(0)", x.tow(0), 2);
    Kit.due("BARRED by none: tow(2)", x.tow(2), 1);
    Kit.due("the last one: tow(1)", x.tow(1), 0);
    Kit.due("ACTS", x.about(6), 3);
    Kit.due("IN", x.about(3), 0);
  }

  static void promise11_itsHeadingHootBodyStay() {
    VintageJams x = Kit.told(THREE);
    x.tow(0);
    Kit.due("CELL", x.car(0, 0), -1);
    Kit.due("heading", x.car(0, 1), 1);
    Kit.due("HOOT", x.car(0, 2), 9);
    Kit.due("BODY", x.car(0, 3), 4);
  }

  // ---- 12: polish

  static void promise12_from0To9() {
    VintageJams x = Kit.told(Kit.car(0, 0, 0, 0, 0, 0));
    for (int body = 1; body <= 9; body++) {
      Kit.due("polish", x.polish(0), body);
      Kit.due("BODY", x.car(0, 3), body);
    }
    String before = Kit.everything(x);
    Kit.due("9 already", x.polish(0), -1);
    Kit.due("nothing is done", Kit.everything(x), before);
  }

  static void promise12_offOrNoneSuchDoesNothing() {
    VintageJams x = three();
    x.tow(0);
    x.tow(1);
    x.undo();
    String before = Kit.everything(x);
    Kit.due("OFF: polish(0)", x.polish(0), -1);
    Kit.due("9 as told: polish(2)", x.polish(2), -1);
    for (int car : NO_CARS) {
      Kit.due("polish(" + car + ")", x.polish(car), -1);
    }
    Kit.due("nothing is done", Kit.everything(x), before);
  }

  // ---- 13: steer

  static void promise13_headingsFrom0To3() {
    VintageJams x = Kit.told("street 3 by 3;" + Kit.car(0, 1, 1, 3, 0) + Kit.car(1, 1, 0, 0, 0) + Kit.car(2, 2, 1, 0, 0)
        + Kit.car(3, 1, 2, 0, 0) + Kit.car(4, 0, 1, 0, 0));
    for (int heading = 0; heading < 4; heading++) {
      Kit.due("steer(0, " + heading + ")", x.steer(0, heading), 2 << heading);
      Kit.due("heading", x.car(0, 1), heading);
    }
    Kit.due("ACTS", x.about(6), 4);
  }

  static void promise13_headingsThatCantBeDoNothing() {
    VintageJams x = three();
    String before = Kit.everything(x);
    int[] wrong = {-1, 4, Kit.LEAST, Kit.MOST};
    for (int heading : wrong) {
      Kit.due("steer(0, " + heading + ")", x.steer(0, heading), -1);
    }
    Kit.due("nothing is done", Kit.everything(x), before);
  }

  static void promise13_theSameOffOrNoneSuchDoesNothing() {
    VintageJams x = three();
    x.tow(2);
    x.tow(1);
    x.undo();
    String before = Kit.everything(x);
    Kit.due("the same: steer(0, 1)", x.steer(0, 1), -1);
    Kit.due("the same: steer(1, 0)", x.steer(1, 0), -1);
    Kit.due("OFF: steer(2, 0)", x.steer(2, 0), -1);
    for (int car : NO_CARS) {
      Kit.due("steer(" + car + ", 0)", x.steer(car, 0), -1);
    }
    Kit.due("nothing is done", Kit.everything(x), before);
  }

  // ---- 14: put

  static void promise14_theFirstAndTheLastCell() {
    VintageJams x = Kit.told(THREE);
    x.tow(0);
    Kit.due("put(0, 0), who bars it", x.put(0, 0), 4);
    Kit.due("CELL", x.car(0, 0), 0);
    x.tow(0);
    Kit.due("put(0, 11)", x.put(0, 11), 0);
    Kit.due("CELL", x.car(0, 0), 11);
    Kit.due("ACTS", x.about(6), 4);
  }

  static void promise14_inDoesNothing() {
    VintageJams x = three();
    String before = Kit.everything(x);
    Kit.due("to another CELL", x.put(0, 0), -1);
    Kit.due("to its own", x.put(0, 4), -1);
    Kit.due("nothing is done", Kit.everything(x), before);
  }

  static void promise14_somebodyThereOrNoSuchCellOrCarDoesNothing() {
    VintageJams x = three();
    x.tow(0);
    x.tow(2);
    x.undo();
    String before = Kit.everything(x);
    Kit.due("b is there", x.put(0, 6), -1);
    Kit.due("c is there", x.put(0, 2), -1);
    int[] wrong = {-1, 12, 64, Kit.LEAST, Kit.MOST};
    for (int cell : wrong) {
      Kit.due("put(0, " + cell + ")", x.put(0, cell), -1);
    }
    for (int car : NO_CARS) {
      Kit.due("put(" + car + ", 0)", x.put(car, 0), -1);
    }
    Kit.due("nothing is done", Kit.everything(x), before);
  }

  static void promise14_whereOneWasThatIsOff() {
    VintageJams x = Kit.told(THREE);
    x.tow(0);
    x.tow(1);
    Kit.due("put(0, 6)", x.put(0, 6), 0);
    Kit.due("put(1, 6)", x.put(1, 6), -1);
    Kit.due("put(1, 4)", x.put(1, 4), 0);
  }

  static void promise14_headingHootBodyAsTheyWere() {
    VintageJams x = three();
    x.steer(0, 2);
    x.polish(0);
    x.tow(0);
    x.year();
    x.put(0, 0);
    Kit.due("heading", x.car(0, 1), 2);
    Kit.due("HOOT", x.car(0, 2), 8);
    Kit.due("BODY", x.car(0, 3), 5);
  }

  static void promise14_theOnlyCellLeft() {
    VintageJams x = Kit.told(Kit.eightInARow(1));
    x.tow(3);
    for (int cell = 0; cell < 8; cell++) {
      if (cell != 3) {
        Kit.due("put(3, " + cell + ")", x.put(3, cell), -1);
      }
    }
    Kit.due("put(3, 3)", x.put(3, 3), 0xf0);
  }

  // ---- 15: undo

  static void promise15_falseIfThereIsNone() {
    VintageJams x = Kit.told(THREE);
    String before = Kit.everything(x);
    Kit.due("undo", x.undo(), false);
    Kit.due("nothing is done", Kit.everything(x), before);
    x.year();
    Kit.due("undo", x.undo(), true);
    Kit.due("undo", x.undo(), false);
  }

  static void promise15_eachSortOfActIsTakenBack() {
    VintageJams x = Kit.told("breaks 100;draw 7;" + THREE.substring(14).replace("body 9", "body 8"));
    String before = Kit.state(x);
    for (int sort = 0; sort < 5; sort++) {
      int[] got = {
        sort == 0 ? x.year() : 0, sort == 1 ? x.let(2) : 0, sort == 2 ? x.tow(0) : 0, sort == 3 ? x.polish(2) : 0,
        sort == 4 ? x.steer(0, 2) : 0
      };
      Kit.due("done", got[sort] >= 0, true);
      Kit.due("changed", Kit.state(x).equals(before), false);
      Kit.due("undo", x.undo(), true);
      Kit.due("as before " + sort, Kit.state(x), before);
      Kit.due("redo", x.redo(), true);
      Kit.due("undo", x.undo(), true);
      Kit.due("as before " + sort, Kit.state(x), before);
    }
    x.tow(0);
    before = Kit.state(x);
    x.put(0, 0);
    x.undo();
    Kit.due("put taken back", Kit.state(x), before);
  }

  static void promise15_40AtMostAreKept() {
    VintageJams x = Kit.told(THREE);
    for (int i = 1; i <= 40; i++) {
      x.year();
      Kit.due("about(6)", x.about(6), i);
    }
    for (int i = 39; i >= 0; i--) {
      Kit.due("undo", x.undo(), true);
      Kit.due("the year", x.about(4), i);
    }
    Kit.due("undo", x.undo(), false);
  }

  static void promise15_theOldestGoes() {
    VintageJams x = Kit.told(THREE);
    for (int i = 1; i <= 41; i++) {
      x.year();
    }
    Kit.due("about(6)", x.about(6), 40);
    for (int i = 40; i >= 1; i--) {
      Kit.due("undo", x.undo(), true);
      Kit.due("the year", x.about(4), i);
    }
    Kit.due("undo", x.undo(), false);
    Kit.due("the year", x.about(4), 1);
  }

  static void promise15_whatTheOldestDidStaysDone() {
    VintageJams x = Kit.told("draw 7;" + THREE.substring(14));
    x.tow(0);
    String behind = Kit.state(x);
    for (int i = 0; i < 40; i++) {
      x.year();
    }
    for (int i = 0; i < 40; i++) {
      x.undo();
    }
    Kit.due("undo", x.undo(), false);
    Kit.due("it stays OFF", Kit.state(x), behind);
  }

  static void promise15_ofTheEighthCarToo() {
    VintageJams x = Kit.told(Kit.eightInARow(0).replace("hoots 0", "hoots 9 body 4"));
    x.polish(7);
    x.steer(7, 1);
    x.year();
    x.tow(7);
    String done = Kit.state(x);
    int[] due = {7, 0, 9, 4};
    for (int i = 0; i < 4; i++) {
      x.undo();
    }
    for (int what = 0; what < 4; what++) {
      Kit.due("car(7, " + what + ")", x.car(7, what), due[what]);
    }
    for (int i = 0; i < 4; i++) {
      x.redo();
    }
    Kit.due("done again", Kit.state(x), done);
  }

  static void promise15_callsThatAreNoActsAreNotTakenBack() {
    VintageJams x = Kit.told(THREE);
    x.tow(2);
    x.tow(9);
    x.image(0);
    x.heard(0, 0, true);
    x.later(1);
    x.order();
    Kit.feed(x, "draw");
    Kit.due("undo", x.undo(), true);
    Kit.due("the ACT was taken back", x.about(3), 7);
    Kit.due("HEARD stays", x.about(8), 1);
    Kit.due("the TIME stays", x.about(9), 1);
    Kit.due("the TAPE stays", x.about(10), 4);
    Kit.due("undo", x.undo(), false);
  }

  // ---- 16: redo

  static void promise16_falseIfThereIsNone() {
    VintageJams x = Kit.told(THREE);
    Kit.due("redo", x.redo(), false);
    x.year();
    String before = Kit.everything(x);
    Kit.due("redo", x.redo(), false);
    Kit.due("nothing is done", Kit.everything(x), before);
    x.undo();
    Kit.due("redo", x.redo(), true);
    Kit.due("redo", x.redo(), false);
    Kit.due("as it was", Kit.everything(x), before);
  }

  static void promise16_thatIsDoneAgainWhichWasTakenBackLast() {
    VintageJams x = Kit.told(THREE);
    x.tow(0);
    x.tow(1);
    x.tow(2);
    x.undo();
    x.undo();
    Kit.due("redo", x.redo(), true);
    Kit.due("IN", x.about(3), 4);
    Kit.due("about(6)", x.about(6), 2);
    Kit.due("about(7)", x.about(7), 1);
    Kit.due("redo", x.redo(), true);
    Kit.due("IN", x.about(3), 0);
  }

  static void promise16_tillAnotherAct() {
    VintageJams x = Kit.told(THREE);
    x.tow(0);
    x.tow(1);
    x.undo();
    x.undo();
    x.steer(2, 0);
    Kit.due("about(7)", x.about(7), 0);
    Kit.due("redo", x.redo(), false);
    Kit.due("the other ACT stays", x.car(2, 1), 0);
    Kit.due("undo", x.undo(), true);
    Kit.due("only that one can be done again", x.about(7), 1);
  }

  static void promise16_refusedCallsAndQuestionsDoNotEndIt() {
    VintageJams x = three();
    x.let(0);
    x.tow(9);
    x.polish(2);
    x.steer(0, 1);
    x.put(0, 0);
    x.turn(0);
    x.exchange(0);
    x.lot(0);
    x.will(60);
    x.law(3);
    x.image(0);
    Kit.due("about(7)", x.about(7), 1);
    Kit.due("redo", x.redo(), true);
    Kit.due("the year", x.about(4), 2);
  }

  static void promise16_40AtMostAreKept() {
    VintageJams x = Kit.told(THREE);
    for (int i = 0; i < 45; i++) {
      x.year();
    }
    for (int i = 0; i < 40; i++) {
      x.undo();
    }
    Kit.due("about(7)", x.about(7), 40);
    for (int i = 6; i <= 45; i++) {
      Kit.due("redo", x.redo(), true);
      Kit.due("the year", x.about(4), i);
    }
    Kit.due("redo", x.redo(), false);
    Kit.due("about(6)", x.about(6), 40);
  }
}
