/** Edges of promises 17 to 27: who bars whom, what would free most. */
public final class Edge17To27Test {
  private static final int[] WRONG_WHATS = {-1, 3, Kit.LEAST, Kit.MOST};

  /** a (0) stands behind b (1), which faces c (2); d (3) is BARRED by none. */
  private static final String BEHIND_A_PAIR =
      "street 4 by 4;" + Kit.car(0, 1, 2, 0, 0) + Kit.car(1, 1, 0, 1, 0) + Kit.car(2, 2, 0, 3, 0)
          + Kit.car(3, 3, 3, 1, 0);

  /** Each even one faces the next odd one. */
  private static final String FOUR_PAIRS;

  static {
    StringBuilder text = new StringBuilder("street 2 by 4;");
    for (int row = 0; row < 4; row++) {
      text.append(Kit.car(2 * row, 0, row, 1, 0)).append(Kit.car(2 * row + 1, 1, row, 3, 0));
    }
    FOUR_PAIRS = text.toString();
  }

  public static void main(String[] args) {
    Kit.runEdges(Edge17To27Test.class, 17, 27);
    Kit.finish();
  }

  private static VintageJams nobodyIn() {
    VintageJams x = Kit.told("street 3 by 1;" + Kit.car(0, 0, 0, 1, 0) + Kit.car(1, 2, 0, 3, 0));
    x.tow(0);
    x.tow(1);
    return x;
  }

  private static int[] noCars(int count) {
    return new int[] {-1, count, 8, Kit.LEAST, Kit.MOST};
  }

  // ---- 17: free

  static void promise17_fromNobodyToAllEight() {
    Kit.due("an empty JAM", new VintageJams().free(), 0);
    Kit.due("nobody IN", nobodyIn().free(), 0);
    Kit.due("all eight", Kit.told(Kit.eightInARow(0)).free(), 255);
    Kit.due("the last one alone", Kit.told(Kit.eightInARow(1)).free(), 128);
    Kit.due("the first one alone", Kit.told(Kit.eightInARow(3)).free(), 1);
    Kit.due("nobody of a round", Kit.told(Kit.roundOfEight()).free(), 0);
  }

  static void promise17_whoIsOffIsNotOneOfThem() {
    VintageJams x = Kit.told(Kit.eightInARow(1));
    x.tow(7);
    Kit.due("free", x.free(), 64);
  }

  static void promise17_nothingIsDoneByThisNorByPromises18To27() {
    VintageJams x = Kit.told(BEHIND_A_PAIR);
    x.tow(3);
    x.year();
    x.undo();
    x.window(15, 2);
    x.order();
    String before = Kit.everything(x);
    x.free();
    x.order();
    x.loose();
    for (int number = -1; number < 5; number++) {
      x.ring(number);
      x.tows(number);
      x.ahead(number);
      x.turn(number);
      x.lines(number);
      x.lot(number);
      x.until(number);
      x.exchange(number);
    }
    Kit.due("all is as before", Kit.everything(x), before);
  }

  // ---- 18: order

  static void promise18_ofNobody() {
    VintageJams x = new VintageJams();
    Kit.due("an empty JAM", x.order(), 0);
    Kit.dueLies(x, "an empty JAM");
    x = Kit.told(Kit.car(0, 0, 0, 0, 0));
    x.order();
    x.tow(0);
    Kit.due("nobody IN", x.order(), 0);
    Kit.dueLies(x, "nobody IN");
  }

  static void promise18_ofAllEight() {
    VintageJams x = Kit.told(Kit.eightInARow(1));
    Kit.due("order", x.order(), 8);
    Kit.dueLies(x, "order", 7, 6, 5, 4, 3, 2, 1, 0);
  }

  static void promise18_ofLikeOnesTheFirst() {
    VintageJams x = Kit.told(Kit.eightInARow(0));
    Kit.due("all are free", x.order(), 8);
    Kit.dueLies(x, "all are free", 0, 1, 2, 3, 4, 5, 6, 7);
    // 0 is BARRED by 1 at first, and goes ahead of 2 as soon as it is not
    x = Kit.told("street 3 by 2;" + Kit.car(0, 0, 0, 1, 0) + Kit.car(1, 2, 0, 1, 0) + Kit.car(2, 0, 1, 2, 0));
    Kit.due("order", x.order(), 3);
    Kit.dueLies(x, "order", 1, 0, 2);
  }

  static void promise18_noneIfNotAllCanBeAndThenNothingLiesThere() {
    VintageJams x = Kit.told(BEHIND_A_PAIR);
    x.window(0, 1);
    Kit.due("something lies there", x.about(12), 1);
    Kit.due("order", x.order(), -1);
    Kit.dueLies(x, "order");
    Kit.due("a round", Kit.told(Kit.roundOfEight()).order(), -1);
  }

  static void promise18_whatLayThereIsGone() {
    VintageJams x = Kit.told(Kit.eightInARow(1));
    x.order();
    x.tow(0);
    x.tow(1);
    Kit.due("order", x.order(), 6);
    Kit.dueLies(x, "order", 7, 6, 5, 4, 3, 2);
  }

  // ---- 19: loose

  static void promise19_fromNobodyToAllEight() {
    Kit.due("an empty JAM", new VintageJams().loose(), 0);
    Kit.due("nobody IN", nobodyIn().loose(), 0);
    Kit.due("a round", Kit.told(Kit.roundOfEight()).loose(), 0);
    Kit.due("all eight, one behind the other", Kit.told(Kit.eightInARow(1)).loose(), 8);
    Kit.due("all eight at once", Kit.told(Kit.eightInARow(0)).loose(), 8);
  }

  static void promise19_whoIsBehindARoundIsNotOneOfThem() {
    VintageJams x = Kit.told(BEHIND_A_PAIR);
    Kit.due("only d", x.loose(), 1);
    x.tow(2);
    Kit.due("all others", x.loose(), 3);
  }

  // ---- 20: ring

  static void promise20_noneIfThereIsNone() {
    VintageJams[] all = {new VintageJams(), nobodyIn(), Kit.told(Kit.eightInARow(1)), Kit.told(Kit.eightInARow(0))};
    for (VintageJams x : all) {
      Kit.due("ring(0)", x.ring(0), -1);
      Kit.due("ring(1)", x.ring(1), -1);
    }
  }

  static void promise20_anotherWhat() {
    VintageJams x = Kit.told(Kit.roundOfEight());
    for (int what : WRONG_WHATS) {
      Kit.due("ring(" + what + ")", x.ring(what), -1);
    }
    Kit.due("ring(2)", x.ring(2), -1);
  }

  static void promise20_fromTwoToAllEight() {
    VintageJams x = Kit.told(BEHIND_A_PAIR);
    Kit.due("ring(0)", x.ring(0), 2);
    Kit.due("ring(1)", x.ring(1), 6);
    x = Kit.told(Kit.roundOfEight());
    Kit.due("ring(0)", x.ring(0), 8);
    Kit.due("ring(1)", x.ring(1), 255);
    x.tow(5);
    Kit.due("one of them is OFF", x.ring(0), -1);
  }

  static void promise20_theFewestBeforeTheLeastSet() {
    // a round of four with the least numbers, a pair with the greatest
    VintageJams x = Kit.told("street 5 by 5;" + Kit.car(0, 0, 0, 1, 0) + Kit.car(1, 2, 0, 2, 0) + Kit.car(2, 2, 2, 3, 0)
        + Kit.car(3, 0, 2, 0, 0) + Kit.car(4, 4, 3, 2, 0) + Kit.car(5, 4, 4, 0, 0));
    Kit.due("ring(0)", x.ring(0), 2);
    Kit.due("ring(1)", x.ring(1), 48);
  }

  static void promise20_ofLikeOnesTheLeastSet() {
    VintageJams x = Kit.told(FOUR_PAIRS);
    Kit.due("ring(1)", x.ring(1), 3);
    x.tow(1);
    Kit.due("the next pair", x.ring(1), 12);
    // 0 faces 3, 1 faces 2: as bits 6 is less than 9, though 0 is the first
    x = Kit.told("street 2 by 2;" + Kit.car(0, 0, 0, 1, 0) + Kit.car(1, 0, 1, 1, 0) + Kit.car(2, 1, 1, 3, 0)
        + Kit.car(3, 1, 0, 3, 0));
    Kit.due("ring(1)", x.ring(1), 6);
  }

  // ---- 21: tows

  static void promise21_noneIsToBeTowed() {
    VintageJams[] all = {new VintageJams(), nobodyIn(), Kit.told(Kit.eightInARow(1)), Kit.told(Kit.eightInARow(0))};
    for (VintageJams x : all) {
      Kit.due("tows(0)", x.tows(0), 0);
      Kit.due("tows(1)", x.tows(1), 0);
    }
  }

  static void promise21_anotherWhat() {
    VintageJams x = Kit.told(FOUR_PAIRS);
    for (int what : WRONG_WHATS) {
      Kit.due("tows(" + what + ")", x.tows(what), -1);
    }
    Kit.due("tows(2)", x.tows(2), -1);
  }

  static void promise21_ofLikeOnesTheLeastSet() {
    VintageJams x = Kit.told(FOUR_PAIRS);
    Kit.due("tows(0)", x.tows(0), 4);
    Kit.due("tows(1)", x.tows(1), 1 | 4 | 16 | 64);
    x.tow(0);
    Kit.due("tows(0)", x.tows(0), 3);
    Kit.due("tows(1)", x.tows(1), 4 | 16 | 64);
    x = Kit.told(Kit.roundOfEight());
    Kit.due("tows(0)", x.tows(0), 1);
    Kit.due("tows(1)", x.tows(1), 1);
  }

  static void promise21_theFewestBeforeTheLeastSet() {
    // 2 faces both 0 and 1: it alone, not both of them
    VintageJams x =
        Kit.told("street 6 by 1;" + Kit.car(0, 0, 0, 1, 0) + Kit.car(1, 1, 0, 1, 0) + Kit.car(2, 5, 0, 3, 0));
    Kit.due("tows(0)", x.tows(0), 1);
    Kit.due("tows(1)", x.tows(1), 4);
  }

  // ---- 22: ahead

  static void promise22_offOrNoneSuch() {
    VintageJams x = Kit.told(BEHIND_A_PAIR);
    for (int car : noCars(4)) {
      Kit.due("ahead(" + car + ")", x.ahead(car), -1);
    }
    x.tow(0);
    Kit.due("OFF: ahead(0)", x.ahead(0), -1);
  }

  static void promise22_fromNobodyToAllOthers() {
    VintageJams x = Kit.told(Kit.eightInARow(1));
    Kit.due("BARRED by none", x.ahead(7), 0);
    Kit.due("all others", x.ahead(0), 254);
    Kit.due("of those behind it none", x.ahead(3), 0xf0);
  }

  static void promise22_itItselfIfItIsOfARoundAndElseNot() {
    VintageJams x = Kit.told(Kit.roundOfEight());
    for (int car = 0; car < 8; car++) {
      Kit.due("ahead(" + car + ")", x.ahead(car), 255);
    }
    x = Kit.told(BEHIND_A_PAIR);
    Kit.due("of the pair", x.ahead(1), 6);
    Kit.due("of the pair", x.ahead(2), 6);
    Kit.due("behind the pair", x.ahead(0), 6);
    Kit.due("beside it", x.ahead(3), 0);
  }

  // ---- 23: turn

  static void promise23_noneIfNoneIsIn() {
    VintageJams[] all = {new VintageJams(), nobodyIn()};
    for (VintageJams x : all) {
      for (int what = 0; what < 3; what++) {
        Kit.due("turn(" + what + ")", x.turn(what), -1);
      }
    }
  }

  static void promise23_anotherWhat() {
    VintageJams x = Kit.told(BEHIND_A_PAIR);
    for (int what : WRONG_WHATS) {
      Kit.due("turn(" + what + ")", x.turn(what), -1);
    }
  }

  private static void dueTurn(VintageJams x, int car, int heading, int count) {
    Kit.due("turn(0)", x.turn(0), car);
    Kit.due("turn(1)", x.turn(1), heading);
    Kit.due("turn(2)", x.turn(2), count);
  }

  static void promise23_itsOwnHeadingDoesNotCount() {
    dueTurn(Kit.told(Kit.car(0, 3, 3, 0, 0)), 0, 1, 1);
    dueTurn(Kit.told(Kit.car(0, 3, 3, 3, 0)), 0, 0, 1);
    // its own one, 0, would be the first that leaves it free
    dueTurn(Kit.told("street 3 by 1;" + Kit.car(0, 1, 0, 0, 0)), 0, 1, 1);
  }

  static void promise23_ofLikeOnesTheFirstCarThenTheFirstHeading() {
    // heading 1 would bar car 0; 2 leaves all free
    dueTurn(Kit.told(Kit.eightInARow(0)), 0, 2, 8);
    VintageJams x = Kit.told(Kit.eightInARow(0));
    x.tow(0);
    dueTurn(x, 1, 2, 7);
  }

  static void promise23_theLastCarAndTheLastHeading() {
    VintageJams x = Kit.told("street 3 by 3;" + Kit.car(0, 1, 0, 0, 0) + Kit.car(1, 2, 1, 1, 0) + Kit.car(2, 1, 2, 2, 0)
        + Kit.car(3, 1, 1, 0, 0));
    dueTurn(x, 3, 3, 4);
  }

  static void promise23_theEighthCar() {
    // seven in the first row head out of it, the eighth heads for one of them
    String text = "street 8 by 8;";
    for (int i = 0; i < 7; i++) {
      text += Kit.car(i, i, 0, 0, 0);
    }
    dueTurn(Kit.told(text + Kit.car(7, 3, 3, 0, 0)), 7, 1, 8);
  }

  static void promise23_whatWasFoundBeforeDoesNotCount() {
    VintageJams x = Kit.told(Kit.eightInARow(0));
    dueTurn(x, 0, 2, 8);
    for (int car = 0; car < 7; car++) {
      x.tow(car);
    }
    dueTurn(x, 7, 1, 1);
    x.tow(7);
    dueTurn(x, -1, -1, -1);
  }

  static void promise23_whoIsOffIsNotTurned() {
    VintageJams x = Kit.told("street 3 by 1;" + Kit.car(0, 0, 0, 1, 0) + Kit.car(1, 2, 0, 3, 0));
    x.tow(0);
    dueTurn(x, 1, 0, 1);
  }

  // ---- 24: lines

  static void promise24_noSuchCell() {
    VintageJams x = Kit.told("street 3 by 5;" + Kit.car(0, 1, 1, 1, 0));
    int[] wrong = {-1, 15, 64, Kit.LEAST, Kit.MOST};
    for (int cell : wrong) {
      Kit.due("lines(" + cell + ")", x.lines(cell), -1);
    }
  }

  static void promise24_theFirstAndTheLastCell() {
    VintageJams x = Kit.told("street 3 by 5;" + Kit.car(0, 2, 0, 3, 0) + Kit.car(1, 2, 1, 2, 0));
    Kit.due("lines(0)", x.lines(0), 1);
    Kit.due("lines(14)", x.lines(14), 1);
  }

  static void promise24_from0To8() {
    // three from above, three from the left, one from below, one from the right
    String text = "street 8 by 8;";
    for (int i = 0; i < 3; i++) {
      text += Kit.car(i, i, 3, 1, 0) + Kit.car(i + 3, 3, i, 2, 0);
    }
    VintageJams x = Kit.told(text + Kit.car(6, 4, 3, 3, 0) + Kit.car(7, 3, 4, 0, 0));
    Kit.due("lines(27)", x.lines(27), 8);
    Kit.due("lines(63)", x.lines(63), 0);
    Kit.due("an empty JAM", new VintageJams().lines(0), 0);
  }

  static void promise24_itsOwnCellIsNotOnItsLine() {
    VintageJams x = Kit.told("street 3 by 3;" + Kit.car(0, 1, 1, 0, 0));
    int[] due = {0, 1, 0, 0, 0, 0, 0, 0, 0};
    for (int cell = 0; cell < 9; cell++) {
      Kit.due("lines(" + cell + ")", x.lines(cell), due[cell]);
    }
  }

  static void promise24_aLineGoesOnBehindACarAndWhoIsOffHasNone() {
    VintageJams x = Kit.told(Kit.eightInARow(1));
    for (int cell = 0; cell < 8; cell++) {
      Kit.due("lines(" + cell + ")", x.lines(cell), cell);
    }
    x.tow(0);
    Kit.due("lines(7)", x.lines(7), 6);
  }

  // ---- 25: lot

  static void promise25_inOrNoneSuch() {
    VintageJams x = Kit.told(BEHIND_A_PAIR);
    Kit.due("IN: lot(0)", x.lot(0), -1);
    for (int car : noCars(4)) {
      Kit.due("lot(" + car + ")", x.lot(car), -1);
    }
  }

  static void promise25_theOnlyCellLeft() {
    VintageJams x = Kit.told(Kit.eightInARow(1));
    x.tow(4);
    Kit.due("lot(4)", x.lot(4), 4);
    x = Kit.told("street 1 by 1;" + Kit.car(0, 0, 0, 0, 0));
    x.tow(0);
    Kit.due("lot(0)", x.lot(0), 0);
  }

  static void promise25_ofLikeOnesTheFirst() {
    VintageJams x = nobodyIn();
    Kit.due("nobody IN: lot(0)", x.lot(0), 0);
    Kit.due("nobody IN: lot(1)", x.lot(1), 0);
    x = Kit.told("street 3 by 3;" + Kit.car(0, 0, 0, 0, 0) + Kit.car(1, 1, 0, 0, 0));
    x.tow(1);
    Kit.due("behind who is there", x.lot(1), 1);
  }

  static void promise25_theLastCell() {
    // ahead of a it would bar and be BARRED
    VintageJams x = Kit.told("street 3 by 1;" + Kit.car(0, 1, 0, 3, 0) + Kit.car(1, 0, 0, 1, 0));
    x.tow(1);
    Kit.due("lot(1)", x.lot(1), 2);
  }

  static void promise25_theLastCellOf64() {
    // each heads down its own column, the eighth to the left: only the last CELL bars none and is BARRED by none
    String text = "street 8 by 8;";
    for (int i = 0; i < 7; i++) {
      text += Kit.car(i, i, i, 2, 0);
    }
    VintageJams x = Kit.told(text + Kit.car(7, 7, 0, 3, 0));
    x.tow(7);
    Kit.due("lot(7)", x.lot(7), 63);
  }

  // ---- 26: until

  static void promise26_offOrNoneSuch() {
    VintageJams x = Kit.told(BEHIND_A_PAIR);
    for (int car : noCars(4)) {
      Kit.due("until(" + car + ")", x.until(car), -1);
    }
    x.tow(3);
    Kit.due("OFF: until(3)", x.until(3), -1);
  }

  static void promise26_from1To8() {
    VintageJams x = Kit.told(Kit.eightInARow(1));
    for (int car = 0; car < 8; car++) {
      Kit.due("until(" + car + ")", x.until(car), 8 - car);
    }
  }

  static void promise26_itCantBeLetGo() {
    VintageJams x = Kit.told(Kit.roundOfEight());
    for (int car = 0; car < 8; car++) {
      Kit.due("of a round: until(" + car + ")", x.until(car), -1);
    }
    x = Kit.told(BEHIND_A_PAIR);
    Kit.due("behind a pair", x.until(0), -1);
    Kit.due("beside it", x.until(3), 1);
  }

  // ---- 27: exchange

  private static void dueExchange(VintageJams x, int first, int second, int count) {
    Kit.due("exchange(0)", x.exchange(0), first);
    Kit.due("exchange(1)", x.exchange(1), second);
    Kit.due("exchange(2)", x.exchange(2), count);
  }

  static void promise27_anotherWhat() {
    VintageJams x = Kit.told(FOUR_PAIRS);
    for (int what : WRONG_WHATS) {
      Kit.due("exchange(" + what + ")", x.exchange(what), -1);
    }
  }

  static void promise27_noneIfNobodyOrOneIsIn() {
    dueExchange(new VintageJams(), -1, -1, -1);
    VintageJams x = Kit.told("street 3 by 1;" + Kit.car(0, 0, 0, 1, 0) + Kit.car(1, 2, 0, 3, 0));
    dueExchange(x, 0, 1, 2);
    x.tow(1);
    dueExchange(x, -1, -1, -1);
    x.tow(0);
    dueExchange(x, -1, -1, -1);
  }

  static void promise27_noneIfTheseAreNoMoreThanNow() {
    // all are free already; in a row all alike, one is free however they stand
    dueExchange(Kit.told(Kit.eightInARow(0)), -1, -1, -1);
    dueExchange(Kit.told(Kit.eightInARow(1)), -1, -1, -1);
  }

  static void promise27_ofLikeOnesTheLesserNumberThenTheOther() {
    // 0 with 1, 2 with 3, and so on would do: both of a pair are free then
    dueExchange(Kit.told(FOUR_PAIRS), 0, 1, 2);
    VintageJams x = Kit.told(FOUR_PAIRS);
    x.tow(0);
    x.tow(1);
    dueExchange(x, 2, 3, 2);
  }

  static void promise27_whoIsOffIsNotExchanged() {
    // with c, which is OFF, nobody would be in b's way
    VintageJams x =
        Kit.told("street 4 by 1;" + Kit.car(0, 0, 0, 1, 0) + Kit.car(1, 1, 0, 1, 0) + Kit.car(2, 3, 0, 0, 0));
    x.tow(2);
    dueExchange(x, -1, -1, -1);
  }

  static void promise27_theLastTwo() {
    String text = "street 8 by 2;";
    for (int i = 0; i < 6; i++) {
      text += Kit.car(i, i, 1, 2, 0);
    }
    dueExchange(Kit.told(text + Kit.car(6, 0, 0, 1, 0) + Kit.car(7, 1, 0, 3, 0)), 6, 7, 8);
  }
}
