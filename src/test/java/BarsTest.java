/** Promises 17 to 27 and 44: who bars whom, and what would free most. */
public final class BarsTest {
  /** A round of four (1 to 4) and one (0) that stands outside it, as in the first run. */
  private static final String ROUND =
      "street 4 by 4;car bus at 1 1 heads 1 hoots 9 body 4;car van at 3 1 heads 2 hoots 5 body 2;"
          + "car nun at 3 3 heads 3 hoots 2 body 6;car rolls at 0 3 heads 0 hoots 7;car taxi at 0 1 heads 1 hoots 4;";
  /** Two that face one another (0, 1), one behind (2), two free of them (3, 4), one behind both (5). */
  private static final String FACING =
      "street 6 by 3;car a at 1 0 heads 1 hoots 1;car b at 3 0 heads 3 hoots 1;car c at 0 0 heads 1 hoots 1;"
          + "car d at 2 1 heads 1 hoots 1;car e at 4 1 heads 2 hoots 1;car f at 0 1 heads 1 hoots 1;";

  public static void main(String[] args) {
    round();
    facing();
    orderIsTheFirst();
    ringsOfLikeSize();
    towsOfLikeSize();
    turns();
    lots();
    exchanges();
    lines();
    laws();
    eachLooksForItself();
    Kit.finish();
  }

  private static void round() {
    VintageJams x = Kit.told(ROUND);
    Kit.due("free", x.free(), 0);
    Kit.due("order", x.order(), -1);
    Kit.dueLies(x, "order NONE");
    Kit.due("loose", x.loose(), 0);
    Kit.due("ring(0)", x.ring(0), 4);
    Kit.due("ring(1)", x.ring(1), 30);
    Kit.due("ring(2)", x.ring(2), -1);
    Kit.due("ring(-1)", x.ring(-1), -1);
    Kit.due("tows(0)", x.tows(0), 1);
    Kit.due("tows(1)", x.tows(1), 2);
    Kit.due("tows(2)", x.tows(2), -1);
    Kit.due("tows(-1)", x.tows(-1), -1);
    for (int car = 0; car < 5; car++) {
      Kit.due("ahead(" + car + ")", x.ahead(car), 31);
      Kit.due("until(" + car + ")", x.until(car), -1);
    }
    Kit.due("ahead(5)", x.ahead(5), -1);
    Kit.due("ahead(-1)", x.ahead(-1), -1);
    Kit.due("until(5)", x.until(5), -1);
    Kit.due("until(-1)", x.until(-1), -1);
    x.tow(1);
    Kit.due("free", x.free(), 1);
    Kit.due("order", x.order(), 4);
    Kit.dueLies(x, "order", 0, 4, 3, 2);
    Kit.due("loose", x.loose(), 4);
    Kit.due("ring(0)", x.ring(0), -1);
    Kit.due("ring(1)", x.ring(1), -1);
    Kit.due("tows(0)", x.tows(0), 0);
    Kit.due("tows(1)", x.tows(1), 0);
    Kit.due("ahead(2)", x.ahead(2), 25);
    Kit.due("ahead(0)", x.ahead(0), 0);
    Kit.due("OFF: ahead(1)", x.ahead(1), -1);
    Kit.due("until(2)", x.until(2), 4);
    Kit.due("until(0)", x.until(0), 1);
    Kit.due("OFF: until(1)", x.until(1), -1);
  }

  private static void facing() {
    VintageJams x = Kit.told(FACING);
    Kit.due("free", x.free(), 16);
    Kit.due("order", x.order(), -1);
    Kit.due("loose", x.loose(), 3);
    Kit.due("ring(0)", x.ring(0), 2);
    // a (0) is barred by b, b by a and c, c by a and b: {a, b} before {b, c}
    Kit.due("ring(1)", x.ring(1), 3);
    Kit.due("tows(0)", x.tows(0), 1);
    Kit.due("tows(1)", x.tows(1), 2);
    Kit.due("ahead(2)", x.ahead(2), 7);
    Kit.due("ahead(0)", x.ahead(0), 7);
    Kit.due("ahead(5)", x.ahead(5), 24);
    Kit.due("ahead(3)", x.ahead(3), 16);
    Kit.due("until(5)", x.until(5), 3);
    Kit.due("until(3)", x.until(3), 2);
    Kit.due("until(4)", x.until(4), 1);
    Kit.due("until(2)", x.until(2), -1);
    x.tow(1);
    Kit.due("order", x.order(), 5);
    Kit.dueLies(x, "order", 0, 2, 4, 3, 5);
    x.tow(0);
    x.tow(2);
    x.tow(3);
    x.tow(4);
    x.tow(5);
    Kit.due("nobody IN: order", x.order(), 0);
    Kit.dueLies(x, "order of nobody");
    Kit.due("nobody IN: free", x.free(), 0);
    Kit.due("nobody IN: loose", x.loose(), 0);
    Kit.due("nobody IN: ring", x.ring(0), -1);
    Kit.due("nobody IN: tows", x.tows(1), 0);
    Kit.due("nobody IN: turn", x.turn(2), -1);
    Kit.due("nobody IN: law", x.law(0), 0);
    Kit.due("nobody IN: exchange", x.exchange(0), -1);
  }

  private static void orderIsTheFirst() {
    // 2 frees 1 frees 0; 3 is free from the first on, but comes behind those freed ahead of it by number
    VintageJams x = Kit.told("car a at 0 0 heads 1 hoots 1;car b at 1 0 heads 1 hoots 1;car c at 2 0 heads 1 hoots 1;"
        + "car d at 0 5 heads 1 hoots 1;");
    Kit.due("free", x.free(), 12);
    Kit.due("order", x.order(), 4);
    Kit.dueLies(x, "order", 2, 1, 0, 3);
    Kit.due("until(0)", x.until(0), 3);
    x = Kit.told("car a at 0 0 heads 1 hoots 1;car b at 5 0 heads 2 hoots 1;car c at 5 5 heads 3 hoots 1;"
        + "car d at 0 4 heads 1 hoots 1;");
    Kit.due("order", x.order(), 4);
    Kit.dueLies(x, "order", 2, 1, 0, 3);
  }

  private static void ringsOfLikeSize() {
    // two pairs that face one another: 0 with 3, 1 with 2 (the lesser set as bits is {1, 2})
    VintageJams x = Kit.told("car a at 0 0 heads 1 hoots 1;car b at 0 1 heads 1 hoots 1;car c at 5 1 heads 3 hoots 1;"
        + "car d at 5 0 heads 3 hoots 1;");
    Kit.due("ring(0)", x.ring(0), 2);
    Kit.due("ring(1)", x.ring(1), 6);
    x.tow(2);
    Kit.due("only who is IN", x.ring(1), 9);
    // a pair with great numbers is smaller than a round with small ones
    x = Kit.told("street 5 by 5;car a at 0 0 heads 1 hoots 1;car b at 2 0 heads 2 hoots 1;car c at 2 2 heads 3 hoots 1;"
        + "car d at 0 2 heads 0 hoots 1;car e at 4 3 heads 2 hoots 1;car f at 4 4 heads 0 hoots 1;");
    Kit.due("ring(0)", x.ring(0), 2);
    Kit.due("ring(1)", x.ring(1), 48);
    x.tow(5);
    Kit.due("ring(0)", x.ring(0), 4);
    Kit.due("ring(1)", x.ring(1), 15);
  }

  private static void towsOfLikeSize() {
    VintageJams x = Kit.told("car a at 0 0 heads 1 hoots 1;car b at 0 1 heads 1 hoots 1;car c at 5 1 heads 3 hoots 1;"
        + "car d at 5 0 heads 3 hoots 1;");
    Kit.due("tows(0)", x.tows(0), 2);
    Kit.due("tows(1)", x.tows(1), 3);
    // one with a great number is fewer than two with small ones: a and b face d each
    x = Kit.told("street 3 by 3;car a at 1 0 heads 2 hoots 1;car b at 1 2 heads 0 hoots 1;car d at 1 1 heads 0 hoots 1;");
    Kit.due("tows(0)", x.tows(0), 1);
    Kit.due("tows(1)", x.tows(1), 1);
    x = Kit.told("street 6 by 2;car a at 0 0 heads 1 hoots 1;car b at 1 0 heads 1 hoots 1;car c at 2 0 heads 1 hoots 1;"
        + "car d at 5 0 heads 3 hoots 1;");
    Kit.due("tows(0)", x.tows(0), 1);
    Kit.due("tows(1)", x.tows(1), 8);
  }

  private static void turns() {
    VintageJams x = Kit.told(ROUND);
    Kit.due("turn(0)", x.turn(0), 0);
    Kit.due("turn(1)", x.turn(1), 0);
    Kit.due("turn(2)", x.turn(2), 1);
    Kit.due("turn(3)", x.turn(3), -1);
    Kit.due("turn(-1)", x.turn(-1), -1);
    Kit.due("nothing is done", x.car(0, 1), 1);
    // all are free: its own heading does not count, the first other one does
    x = Kit.told("car a at 2 2 heads 0 hoots 0;car b at 2 4 heads 2 hoots 0;");
    Kit.due("turn(0)", x.turn(0), 0);
    Kit.due("turn(1)", x.turn(1), 1);
    Kit.due("turn(2)", x.turn(2), 2);
    // any turn is worse than none
    x = Kit.told("street 1 by 3;car a at 0 1 heads 1 hoots 0;car b at 0 0 heads 1 hoots 0;");
    Kit.due("turn(0)", x.turn(0), 0);
    Kit.due("turn(1)", x.turn(1), 2);
    Kit.due("turn(2)", x.turn(2), 2);
    x = Kit.told("street 2 by 1;car a at 0 0 heads 1 hoots 0;car b at 1 0 heads 3 hoots 0;");
    x.tow(0);
    Kit.due("only who is IN", x.turn(0), 1);
    Kit.due("turn(1)", x.turn(1), 0);
  }

  private static void lots() {
    VintageJams x = Kit.told("street 3 by 2;car a at 0 0 heads 1 hoots 0;car b at 2 1 heads 3 hoots 0;"
        + "car c at 1 0 heads 2 hoots 0;");
    Kit.due("IN: lot(0)", x.lot(0), -1);
    Kit.due("no such CAR", x.lot(3), -1);
    Kit.due("no such CAR", x.lot(-1), -1);
    x.tow(2);
    // 1 bars a (and is free); 2 bars a; 3 bars b; 4 bars b: one less free each, so the first
    Kit.due("lot(2)", x.lot(2), 1);
    x.tow(1);
    // behind a's line: 3, 4, 5 are free, 1 and 2 bar a
    Kit.due("lot(2)", x.lot(2), 3);
    Kit.due("nothing is done", x.about(3), 1);
    x = Kit.told("street 1 by 2;car a at 0 0 heads 1 hoots 0;car b at 0 1 heads 1 hoots 0;");
    x.tow(1);
    Kit.due("lot(1)", x.lot(1), 1);
    // a street with no CELL left over
    x = Kit.told("street 1 by 1;car a at 0 0 heads 1 hoots 0;");
    x.tow(0);
    Kit.due("lot(0)", x.lot(0), 0);
    x = new VintageJams();
    Kit.tell(x, "street 1 by 2;car a at 0 0 heads 1 hoots 0;car b at 0 1 heads 1 hoots 0;");
    Kit.due("all IN", x.lot(1), -1);
  }

  private static void exchanges() {
    VintageJams x = Kit.told(ROUND);
    Kit.due("exchange(0)", x.exchange(0), 0);
    Kit.due("exchange(1)", x.exchange(1), 1);
    Kit.due("exchange(2)", x.exchange(2), 2);
    Kit.due("exchange(3)", x.exchange(3), -1);
    Kit.due("exchange(-1)", x.exchange(-1), -1);
    Kit.due("nothing is done", x.car(0, 0), 5);
    // face to face: back to back by exchange
    x = Kit.told("street 2 by 1;car a at 0 0 heads 1 hoots 0;car b at 1 0 heads 3 hoots 0;");
    Kit.due("exchange(0)", x.exchange(0), 0);
    Kit.due("exchange(1)", x.exchange(1), 1);
    Kit.due("exchange(2)", x.exchange(2), 2);
    // as free as can be already
    x = Kit.told("street 2 by 1;car a at 0 0 heads 3 hoots 0;car b at 1 0 heads 1 hoots 0;");
    Kit.due("exchange(0)", x.exchange(0), -1);
    Kit.due("exchange(2)", x.exchange(2), -1);
    // of like ones the first: 0 and 3, 1 and 2, 1 and 3 would do as well
    x = Kit.told("street 2 by 2;car a at 0 0 heads 1 hoots 0;car b at 0 1 heads 1 hoots 0;car c at 1 1 heads 3 hoots 0;"
        + "car d at 1 0 heads 3 hoots 0;");
    Kit.due("exchange(0)", x.exchange(0), 0);
    Kit.due("exchange(1)", x.exchange(1), 2);
    Kit.due("exchange(2)", x.exchange(2), 2);
    x.tow(0);
    Kit.due("only who is IN", x.exchange(0), 1);
    Kit.due("only who is IN", x.exchange(1), 2);
    Kit.due("only who is IN", x.exchange(2), 3);
  }

  private static void lines() {
    VintageJams x = Kit.told(ROUND);
    // bus: 6, 7. van: 11, 15. nun: 12, 13, 14. rolls: 0, 4, 8. taxi: 5, 6, 7.
    int[] due = {1, 0, 0, 0, 1, 1, 2, 2, 1, 0, 0, 1, 1, 1, 1, 1};
    for (int cell = 0; cell < due.length; cell++) {
      Kit.due("lines(" + cell + ")", x.lines(cell), due[cell]);
    }
    Kit.due("lines(16)", x.lines(16), -1);
    Kit.due("lines(-1)", x.lines(-1), -1);
    x.tow(0);
    Kit.due("only who is IN", x.lines(7), 1);
  }

  private static void laws() {
    VintageJams x = Kit.told(ROUND);
    Kit.due("law(0)", x.law(0), 3);
    Kit.due("law(1)", x.law(1), 2);
    Kit.due("law(2)", x.law(2), 3);
    Kit.due("law(3)", x.law(3), 2);
    Kit.due("law(4)", x.law(4), -1);
    Kit.due("law(-1)", x.law(-1), -1);
    Kit.due("nothing is done", x.car(0, 1), 1);
    x.tow(1);
    Kit.due("only who is IN", x.law(1), 2);
    Kit.due("only who is IN", x.law(0), 3);
  }

  /** No answer may hang on what another call has looked at before. */
  private static void eachLooksForItself() {
    String row = "street 3 by 1;car a at 0 0 heads 1 hoots 0;car b at 1 0 heads 1 hoots 0;car c at 2 0 heads 1 hoots 0;";
    Kit.due("loose first", Kit.told(row).loose(), 3);
    Kit.due("ahead first", Kit.told(row).ahead(0), 6);
    Kit.due("until first", Kit.told(row).until(0), 3);
    Kit.due("order first", Kit.told(row).order(), 3);
    Kit.due("tows first", Kit.told(row).tows(1), 0);
    Kit.due("ring first", Kit.told(row.replace("2 0 heads 1", "2 0 heads 3")).ring(1), 5);
    VintageJams x = Kit.told(row);
    x.steer(2, 3);
    Kit.due("loose", x.loose(), 0);
    x.steer(2, 0);
    Kit.due("until", x.until(0), 3);
    x.tow(1);
    Kit.due("until", x.until(0), 2);
    Kit.due("ahead", x.ahead(0), 4);
    x.undo();
    Kit.due("ahead", x.ahead(0), 6);
    // more were free by an earlier turn, or an earlier exchange, than now can be
    x = Kit.told("street 3 by 1;car a at 0 0 heads 3 hoots 0;car b at 2 0 heads 1 hoots 0;");
    Kit.due("turn(2)", x.turn(2), 2);
    x.tow(1);
    Kit.due("turn(2)", x.turn(2), 1);
    Kit.due("turn(0)", x.turn(0), 0);
    Kit.due("turn(1)", x.turn(1), 0);
    x.put(1, 1);
    x.steer(0, 1);
    x.steer(1, 3);
    Kit.due("exchange(2)", x.exchange(2), 2);
    x.tow(0);
    Kit.due("turn(2)", x.turn(2), 1);
    // a change with one that is OFF would free more, but does not count
    x = Kit.told("street 3 by 1;car a at 0 0 heads 1 hoots 0;car b at 2 0 heads 0 hoots 0;car c at 1 0 heads 0 hoots 0;");
    x.tow(2);
    Kit.due("exchange(0) with one OFF", x.exchange(0), 0);
    Kit.due("exchange(1) with one OFF", x.exchange(1), 1);
    Kit.due("exchange(2) with one OFF", x.exchange(2), 2);
    x.tow(1);
    x.put(2, 2);
    x.steer(2, 3);
    x.steer(0, 2);
    Kit.due("free", x.free(), 1);
    Kit.due("none", x.exchange(0), 0);
    x = Kit.told("street 2 by 1;car a at 0 0 heads 1 hoots 0;car b at 1 0 heads 1 hoots 0;");
    Kit.due("alike, nothing gained", x.exchange(0), -1);
    x = Kit.told("street 4 by 1;car a at 0 0 heads 1 hoots 0;car b at 1 0 heads 1 hoots 0;car c at 3 0 heads 0 hoots 0;");
    x.tow(2);
    Kit.due("only with one that is OFF", x.exchange(0), -1);
    // three in a row: both CELLS are exchanged
    x = Kit.told("street 3 by 2;car a at 0 0 heads 1 hoots 0;car b at 1 0 heads 0 hoots 0;car c at 2 1 heads 0 hoots 0;");
    Kit.due("exchange(0)", x.exchange(0), 0);
    Kit.due("exchange(1)", x.exchange(1), 1);
    Kit.due("exchange(2)", x.exchange(2), 3);
    x = Kit.told("street 3 by 1;car a at 0 0 heads 1 hoots 0;car b at 1 0 heads 3 hoots 0;car c at 2 0 heads 3 hoots 0;");
    Kit.due("exchange(0)", x.exchange(0), 0);
    Kit.due("exchange(1)", x.exchange(1), 2);
    Kit.due("exchange(2)", x.exchange(2), 2);
  }
}
