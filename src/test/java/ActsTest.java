/** Promises 6 to 16: CARS and CELLS, the ACTS, UNDO and REDO. */
public final class ActsTest {
  private static final String STREET =
      "street 4 by 3;car bus at 0 1 heads 1 hoots 9 body 4;car van at 2 1 heads 0 hoots 5;"
          + "car nun at 2 0 heads 3 hoots 2 body 9;";

  public static void main(String[] args) {
    carsAndCells();
    headingsOnAllLines();
    years();
    lampsBreak();
    softensByWhatWasAhead();
    lastYear();
    letAndTow();
    polish();
    steer();
    put();
    undoAndRedo();
    fortyActs();
    Kit.finish();
  }

  private static void carsAndCells() {
    VintageJams x = Kit.told(STREET);
    int[][] due = {{4, 1, 9, 4, 2, 0}, {6, 0, 5, 1, 4, 1}, {2, 3, 2, 9, 0, 2}};
    for (int car = 0; car < 3; car++) {
      for (int what = 0; what < 6; what++) {
        Kit.due("car(" + car + ", " + what + ")", x.car(car, what), due[car][what]);
      }
      Kit.due("car(" + car + ", 6)", x.car(car, 6), -2);
      Kit.due("car(" + car + ", -1)", x.car(car, -1), -2);
    }
    Kit.due("car(3, 0)", x.car(3, 0), -2);
    Kit.due("car(-1, 0)", x.car(-1, 0), -2);
    Kit.due("car(8, 4)", x.car(8, 4), -2);
    int[] who = {-1, -1, 2, -1, 0, -1, 1, -1, -1, -1, -1, -1};
    for (int cell = 0; cell < who.length; cell++) {
      Kit.due("spot(" + cell + ")", x.spot(cell), who[cell]);
    }
    Kit.due("spot(12)", x.spot(12), -1);
    Kit.due("spot(-1)", x.spot(-1), -1);
    x.tow(1);
    int[] off = {-1, 0, 5, 1, 0, 0};
    for (int what = 0; what < 6; what++) {
      Kit.due("OFF: car(1, " + what + ")", x.car(1, what), off[what]);
    }
    Kit.due("OFF: spot(6)", x.spot(6), -1);
    Kit.due("OFF: spot(-1)", x.spot(-1), -1);
    Kit.due("OFF: car(0, 4)", x.car(0, 4), 0);
    Kit.due("OFF: car(2, 5)", x.car(2, 5), 0);
  }

  private static void headingsOnAllLines() {
    // one in the middle, one on each side at the rim, and one beyond each that is not on its LINE
    VintageJams x = Kit.told("street 5 by 5;car m at 2 2 heads 0 hoots 0;car u at 2 0 heads 0 hoots 0;"
        + "car r at 4 2 heads 0 hoots 0;car d at 2 4 heads 0 hoots 0;car l at 0 2 heads 0 hoots 0;"
        + "car x at 1 1 heads 0 hoots 0;car y at 3 3 heads 0 hoots 0;");
    Kit.due("heads 0", x.car(0, 4), 2);
    Kit.due("heads 1", x.steer(0, 1), 4);
    Kit.due("heads 2", x.steer(0, 2), 8);
    Kit.due("heads 3", x.steer(0, 3), 16);
    Kit.due("whom it bars", x.car(0, 5), 8);
    Kit.due("all on a LINE bar", x.car(3, 4), 3);
  }

  private static void years() {
    VintageJams x = Kit.told(STREET);
    Kit.due("year()", x.year(), 0);
    Kit.due("about(4)", x.about(4), 1);
    Kit.due("HOOT", x.car(0, 2), 8);
    Kit.due("HOOT", x.car(1, 2), 4);
    Kit.due("HOOT", x.car(2, 2), 1);
    // three CARS, three draws: 71, 798, 397
    Kit.due("SEED", x.about(5), 397);
    x.year();
    x.year();
    Kit.due("HOOT 0 at least", x.car(2, 2), 0);
    Kit.due("BODY", x.car(0, 3), 4);
    x.tow(0);
    int seed = x.about(5);
    x.year();
    Kit.due("OFF does not soften", x.car(0, 2), 6);
    Kit.due("OFF draws nothing", x.about(5), step(step(seed)));
    x.tow(1);
    x.tow(2);
    seed = x.about(5);
    Kit.due("nobody IN", x.year(), 0);
    Kit.due("nobody draws", x.about(5), seed);
    Kit.due("about(4)", x.about(4), 5);
  }

  private static int step(int seed) {
    return (seed * 137 + 71) % 1000;
  }

  private static void lampsBreak() {
    VintageJams x = Kit.told("breaks 100;car a at 0 0 heads 0 hoots 0 body 1;car b at 1 0 heads 0 hoots 0 body 0;");
    Kit.due("all break", x.year(), 3);
    Kit.due("BODY", x.car(0, 3), 0);
    Kit.due("BODY 0 at least", x.car(1, 3), 0);
    Kit.due("also of BODY 0", x.year(), 3);
    Kit.due("BODY", x.car(0, 3), 0);
    // the SEED becomes 71, then 798: rests 71 and 98
    String two = "car a at 0 0 heads 0 hoots 0 body 5;car b at 1 0 heads 0 hoots 0 body 5;";
    Kit.due("71 is less than 72", Kit.told("breaks 72;" + two).year(), 1);
    Kit.due("71 is not less than 71", Kit.told("breaks 71;" + two).year(), 0);
    Kit.due("98 is less than 99", Kit.told("breaks 99;" + two).year(), 3);
    Kit.due("98 is not less than 98", Kit.told("breaks 98;" + two).year(), 1);
    Kit.due("0 never", Kit.told("draw 777;breaks 0;" + two).year(), 0);
    // 777 * 137 + 71 = 106520: a rest of 20
    Kit.due("by its draw", Kit.told("draw 777;breaks 21;" + two).year() & 1, 1);
    VintageJams y = Kit.told("breaks 100;car a at 0 0 heads 0 hoots 0 body 5;car b at 1 0 heads 0 hoots 0 body 5;");
    y.tow(0);
    Kit.due("only who is IN", y.year(), 2);
    Kit.due("OFF keeps its BODY", y.car(0, 3), 5);
  }

  private static void softensByWhatWasAhead() {
    String cars = "car a at 0 0 heads 0 hoots 50 body 2;car b at 1 3 heads 0 hoots 50 body 7;";
    VintageJams x = Kit.told("softens bodied * 2 + lane + many * 10 - year;" + cars);
    x.year();
    Kit.due("by its BODY, lane, many", x.car(0, 2), 50 - 24);
    Kit.due("by its BODY, lane, many", x.car(1, 2), 50 - 37);
    x.year();
    Kit.due("by the year, all at most", x.car(0, 2), 26 - 23);
    Kit.due("by the year, all at most", x.car(1, 2), 0);
    x = Kit.told("softens hoot / 2;" + cars);
    x.year();
    Kit.due("by its HOOT", x.car(0, 2), 25);
    x = Kit.told("softens 0 - 7;" + cars);
    x.year();
    Kit.due("0 at least", x.car(0, 2), 50);
    // the BODY that breaks in this YEAR is not yet less
    x = Kit.told("breaks 100;softens bodied;" + cars);
    x.year();
    Kit.due("BODY ahead of it", x.car(0, 2), 48);
    x.year();
    Kit.due("BODY ahead of it", x.car(0, 2), 47);
  }

  private static void lastYear() {
    VintageJams x = Kit.told(STREET);
    for (int i = 0; i < 400; i++) {
      x.year();
    }
    x.image(0);
    Kit.due("400 of them", x.about(4), 400);
    VintageJams y = new VintageJams();
    for (int i = 0; i < 999; i++) {
      y.year();
    }
    Kit.due("999 of them", y.about(4), 999);
    Kit.due("behind 999", y.year(), -1);
    Kit.due("doing nothing", y.about(4), 999);
    Kit.due("undo", y.undo(), true);
    Kit.due("NONE does not spoil redo", y.about(7), 1);
    Kit.due("one more again", y.year(), 0);
    Kit.due("and no more", y.year(), -1);
  }

  private static void letAndTow() {
    VintageJams x = Kit.told(STREET);
    Kit.due("BARRED: let(0)", x.let(0), -1);
    Kit.due("let(1)", x.let(1), -1);
    Kit.due("let(3)", x.let(3), -1);
    Kit.due("let(-1)", x.let(-1), -1);
    Kit.due("no ACT", x.about(6), 0);
    Kit.due("let(2)", x.let(2), 2);
    Kit.due("OFF: let(2)", x.let(2), -1);
    Kit.due("IN", x.about(3), 3);
    Kit.due("let(1)", x.let(1), 1);
    Kit.due("let(0)", x.let(0), 0);
    Kit.due("ACTS", x.about(6), 3);
    x = Kit.told(STREET);
    Kit.due("tow(0), BARRED", x.tow(0), 2);
    Kit.due("tow(0), OFF", x.tow(0), -1);
    Kit.due("tow(3)", x.tow(3), -1);
    Kit.due("tow(-1)", x.tow(-1), -1);
    Kit.due("tow(2), BARRED by none", x.tow(2), 1);
    Kit.due("IN", x.about(3), 2);
    Kit.due("ACTS", x.about(6), 2);
  }

  private static void polish() {
    VintageJams x = Kit.told(STREET);
    Kit.due("polish(0)", x.polish(0), 5);
    Kit.due("BODY", x.car(0, 3), 5);
    Kit.due("polish(2), 9 already", x.polish(2), -1);
    Kit.due("polish(3)", x.polish(3), -1);
    Kit.due("polish(-1)", x.polish(-1), -1);
    x.tow(0);
    Kit.due("OFF: polish(0)", x.polish(0), -1);
    Kit.due("ACTS", x.about(6), 2);
    for (int body = 2; body <= 9; body++) {
      Kit.due("polish(1)", x.polish(1), body);
    }
    Kit.due("polish(1)", x.polish(1), -1);
    Kit.due("BODY", x.car(1, 3), 9);
  }

  private static void steer() {
    VintageJams x = Kit.told(STREET);
    Kit.due("the same", x.steer(0, 1), -1);
    Kit.due("heading 4", x.steer(0, 4), -1);
    Kit.due("heading -1", x.steer(0, -1), -1);
    Kit.due("steer(3, 0)", x.steer(3, 0), -1);
    Kit.due("steer(-1, 0)", x.steer(-1, 0), -1);
    Kit.due("no ACT", x.about(6), 0);
    Kit.due("steer(1, 3)", x.steer(1, 3), 1);
    Kit.due("heading", x.car(1, 1), 3);
    Kit.due("steer(2, 2)", x.steer(2, 2), 2);
    Kit.due("steer(0, 0)", x.steer(0, 0), 0);
    x.tow(0);
    Kit.due("OFF: steer(0, 2)", x.steer(0, 2), -1);
    Kit.due("ACTS", x.about(6), 4);
  }

  private static void put() {
    VintageJams x = Kit.told(STREET);
    Kit.due("IN: put(0, 0)", x.put(0, 0), -1);
    x.steer(0, 2);
    x.polish(0);
    x.year();
    x.tow(0);
    x.year();
    Kit.due("somebody there", x.put(0, 6), -1);
    Kit.due("no such CELL", x.put(0, 12), -1);
    Kit.due("no such CELL", x.put(0, -1), -1);
    Kit.due("no such CAR", x.put(3, 0), -1);
    Kit.due("no such CAR", x.put(-1, 0), -1);
    Kit.due("ACTS", x.about(6), 5);
    Kit.due("put(0, 2) where one is", x.put(0, 2), -1);
    x.tow(2);
    Kit.due("where one was: put(0, 2)", x.put(0, 2), 2);
    Kit.due("its heading stays", x.car(0, 1), 2);
    Kit.due("its HOOT stays", x.car(0, 2), 8);
    Kit.due("its BODY stays", x.car(0, 3), 5);
    Kit.due("CELL", x.car(0, 0), 2);
    Kit.due("the last CELL: put(2, 11)", x.put(2, 11), 0);
    Kit.due("spot(11)", x.spot(11), 2);
    Kit.due("ACTS", x.about(6), 8);
  }

  private static void act(VintageJams x, int i) {
    switch (i % 6) {
      case 0:
        x.year();
        break;
      case 1:
        x.let(2);
        break;
      case 2:
        x.steer(1, i % 4);
        break;
      case 3:
        x.polish(0);
        break;
      case 4:
        x.put(2, 11 - i % 3);
        break;
      default:
        x.tow(2);
        break;
    }
  }

  private static void undoAndRedo() {
    VintageJams x = Kit.told("breaks 60;" + "draw 3;" + STREET.substring(STREET.indexOf("car")));
    String[] states = new String[30];
    int acts = 0;
    states[0] = Kit.state(x);
    for (int i = 0; i < 12; i++) {
      act(x, i);
      if (x.about(6) > acts) {
        acts = x.about(6);
        states[acts] = Kit.state(x);
      }
    }
    Kit.due("some ACTS", acts > 6, true);
    for (int i = acts - 1; i >= 0; i--) {
      Kit.due("undo", x.undo(), true);
      Kit.due("as it was", Kit.state(x).equals(states[i]), true);
      Kit.due("about(6)", x.about(6), i);
      Kit.due("about(7)", x.about(7), acts - i);
    }
    Kit.due("undo of nothing", x.undo(), false);
    for (int i = 1; i <= acts; i++) {
      Kit.due("redo", x.redo(), true);
      Kit.due("as it was then", Kit.state(x).equals(states[i]), true);
      Kit.due("about(6)", x.about(6), i);
      Kit.due("about(7)", x.about(7), acts - i);
    }
    Kit.due("redo of nothing", x.redo(), false);
    x.undo();
    x.undo();
    Kit.due("an act that is none", x.tow(9), -1);
    Kit.due("leaves redo", x.about(7), 2);
    x.polish(1);
    Kit.due("another ACT ends redo", x.about(7), 0);
    Kit.due("redo", x.redo(), false);
    Kit.due("undo", x.undo(), true);
    Kit.due("as it was", Kit.state(x).equals(states[acts - 2]), true);
  }

  private static void fortyActs() {
    VintageJams x = Kit.told(STREET);
    for (int i = 1; i <= 50; i++) {
      x.year();
      Kit.due("about(6)", x.about(6), Math.min(i, 40));
    }
    for (int i = 1; i <= 40; i++) {
      Kit.due("undo " + i, x.undo(), true);
      Kit.due("the year", x.about(4), 50 - i);
    }
    Kit.due("undo 41", x.undo(), false);
    Kit.due("the year", x.about(4), 10);
    for (int i = 1; i <= 40; i++) {
      Kit.due("redo " + i, x.redo(), true);
      Kit.due("the year", x.about(4), 10 + i);
    }
    Kit.due("redo 41", x.redo(), false);
    x.undo();
    x.tow(0);
    Kit.due("40 again", x.about(6), 40);
    Kit.due("undo", x.undo(), true);
    Kit.due("IN again", x.about(3), 7);
    Kit.due("the year", x.about(4), 49);
  }
}
