/** Promises 37 to 39 and 46: WALKS, WINDOWS, what can be come to, and what lies there. */
public final class WalkTest {
  /**
   * <pre>
   *   . a . .
   *   . b . .
   *   . . c .
   * </pre>
   */
  private static final String STREET =
      "street 4 by 3;car a at 1 0 heads 0 hoots 1;car b at 1 1 heads 0 hoots 1;car c at 2 2 heads 0 hoots 1;";

  public static void main(String[] args) {
    walks();
    windows();
    firstOfLikeWays();
    sixteenAtMost();
    reach();
    Kit.finish();
  }

  private static void walks() {
    VintageJams x = Kit.told(STREET);
    Kit.due("walk(0, 0)", x.walk(0, 0), 0);
    Kit.due("walk(0, 4)", x.walk(0, 4), 1);
    Kit.due("walk(0, 9)", x.walk(0, 9), 3);
    Kit.due("walk(9, 0)", x.walk(9, 0), 3);
    Kit.due("cut off: walk(0, 2)", x.walk(0, 2), -1);
    Kit.due("walk(2, 11)", x.walk(2, 11), 3);
    Kit.due("from a CAR: walk(1, 0)", x.walk(1, 0), -1);
    Kit.due("to a CAR: walk(0, 1)", x.walk(0, 1), -1);
    Kit.due("at a CAR: walk(1, 1)", x.walk(1, 1), -1);
    Kit.due("walk(0, 12)", x.walk(0, 12), -1);
    Kit.due("walk(12, 0)", x.walk(12, 0), -1);
    Kit.due("walk(12, 12)", x.walk(12, 12), -1);
    Kit.due("walk(-1, 0)", x.walk(-1, 0), -1);
    Kit.due("walk(0, -1)", x.walk(0, -1), -1);
    Kit.due("no way round the rim: walk(3, 4)", x.walk(3, 4), -1);
    x.tow(0);
    Kit.due("walk(0, 2)", x.walk(0, 2), 2);
    Kit.due("walk(0, 11)", x.walk(0, 11), 5);
    Kit.due("walk(9, 11)", x.walk(9, 11), 8);
    Kit.due("the rows' ends are not beside one another", x.walk(3, 4), 4);
    VintageJams y = new VintageJams();
    Kit.due("walk(0, 35)", y.walk(0, 35), 10);
    Kit.due("walk(5, 6)", y.walk(5, 6), 6);
    y = Kit.told("street 1 by 8;");
    Kit.due("one column", y.walk(0, 7), 7);
    y = Kit.told("street 8 by 1;");
    Kit.due("one row", y.walk(7, 0), 7);
  }

  private static void windows() {
    VintageJams x = Kit.told(STREET);
    Kit.due("beside it already", x.window(0, 0), 0);
    Kit.dueLies(x, "window(0, 0)", 0);
    Kit.due("window(0, 1)", x.window(0, 1), 1);
    Kit.dueLies(x, "window(0, 1)", 0, 4);
    Kit.due("window(0, 2)", x.window(0, 2), 3);
    Kit.dueLies(x, "window(0, 2)", 0, 4, 8, 9);
    Kit.due("window(3, 1)", x.window(3, 1), 2);
    Kit.dueLies(x, "window(3, 1)", 3, 2, 6);
    Kit.due("from a CAR", x.window(1, 1), -1);
    Kit.dueLies(x, "window(1, 1)");
    x.window(0, 0);
    Kit.due("from its own CELL", x.window(1, 0), -1);
    Kit.dueLies(x, "window(1, 0)");
    x.window(0, 0);
    Kit.due("no such CELL", x.window(12, 0), -1);
    Kit.dueLies(x, "window(12, 0)");
    x.window(0, 0);
    Kit.due("no such CELL", x.window(-1, 0), -1);
    Kit.dueLies(x, "window(-1, 0)");
    x.window(0, 0);
    Kit.due("no such CAR", x.window(0, 3), -1);
    Kit.dueLies(x, "window(0, 3)");
    x.window(0, 0);
    Kit.due("no such CAR", x.window(0, -1), -1);
    Kit.dueLies(x, "window(0, -1)");
    x.tow(1);
    x.window(0, 0);
    Kit.due("OFF", x.window(0, 1), -1);
    Kit.dueLies(x, "window(0, 1)");
    x = Kit.told("street 4 by 1;car a at 1 0 heads 0 hoots 1;car b at 3 0 heads 0 hoots 1;");
    Kit.due("cut off", x.window(0, 1), -1);
    Kit.dueLies(x, "window(0, 1)");
    Kit.due("no i below 0", x.lies(-1), -1);
    // what lies stays, whatever is done and asked besides
    Kit.due("window(2, 1)", x.window(2, 1), 0);
    x.tow(0);
    x.year();
    x.undo();
    x.walk(0, 0);
    x.reach(0);
    Kit.dueLies(x, "stays", 2);
    Kit.due("lies(-1)", x.lies(-1), -1);
    Kit.due("lies(16)", x.lies(16), -1);
  }

  private static void firstOfLikeWays() {
    VintageJams x = Kit.told("car a at 5 5 heads 0 hoots 1;");
    Kit.due("window(0, 0)", x.window(0, 0), 9);
    Kit.dueLies(x, "window(0, 0)", 0, 1, 2, 3, 4, 5, 11, 17, 23, 29);
    x = Kit.told("car a at 0 0 heads 0 hoots 1;");
    Kit.due("window(35, 0)", x.window(35, 0), 9);
    // 29 is less than 34, 23 than 28, and so on up; then along the first row
    Kit.dueLies(x, "window(35, 0)", 35, 29, 23, 17, 11, 5, 4, 3, 2, 1);
    x = Kit.told("car a at 5 0 heads 0 hoots 1;");
    Kit.due("window(30, 0)", x.window(30, 0), 9);
    Kit.dueLies(x, "window(30, 0)", 30, 24, 18, 12, 6, 0, 1, 2, 3, 4);
    x = Kit.told("car a at 0 5 heads 0 hoots 1;");
    Kit.due("window(5, 0)", x.window(5, 0), 9);
    Kit.dueLies(x, "window(5, 0)", 5, 4, 3, 2, 1, 0, 6, 12, 18, 24);
    // the first way may lead into no trap: what is first must still be one of the fewest steps
    x = Kit.told("street 3 by 3;car a at 1 0 heads 0 hoots 1;car b at 2 2 heads 0 hoots 1;");
    Kit.due("window(0, 1)", x.window(0, 1), 3);
    Kit.dueLies(x, "window(0, 1)", 0, 3, 4, 5);
  }

  private static void sixteenAtMost() {
    // walls with holes at their ends
    VintageJams x = Kit.told("street 3 by 8;car a at 0 1 heads 0 hoots 1;car b at 1 1 heads 0 hoots 1;"
        + "car c at 1 3 heads 0 hoots 1;car d at 2 3 heads 0 hoots 1;car e at 0 5 heads 0 hoots 1;"
        + "car f at 1 5 heads 0 hoots 1;car g at 0 7 heads 0 hoots 1;");
    Kit.due("window(0, 6)", x.window(0, 6), 14);
    Kit.dueLies(x, "window(0, 6)", 0, 1, 2, 5, 8, 7, 6, 9, 12, 13, 14, 17, 20, 19, 18);
    // 17 CELLS: the last one does not lie there
    StringBuilder wall = new StringBuilder("street 8 by 4;car z at 0 3 heads 0 hoots 0;");
    for (int column = 0; column < 7; column++) {
      wall.append("car ").append((char) ('a' + column)).append(" at ").append(column).append(" 1 heads 0 hoots 0;");
    }
    x = Kit.told(wall.toString());
    Kit.due("window(0, 0)", x.window(0, 0), 16);
    Kit.dueLies(x, "window(0, 0)", 0, 1, 2, 3, 4, 5, 6, 7, 15, 23, 22, 21, 20, 19, 18, 17);
    Kit.due("window(1, 0)", x.window(1, 0), 15);
    Kit.dueLies(x, "window(1, 0)", 1, 2, 3, 4, 5, 6, 7, 15, 23, 22, 21, 20, 19, 18, 17, 16);
  }

  private static void reach() {
    VintageJams x = Kit.told(STREET);
    Kit.due("reach(0)", x.reach(0), 4);
    Kit.due("reach(9)", x.reach(9), 4);
    Kit.due("reach(3)", x.reach(3), 5);
    Kit.due("reach(1)", x.reach(1), 0);
    Kit.due("reach(12)", x.reach(12), -1);
    Kit.due("reach(-1)", x.reach(-1), -1);
    x.tow(0);
    Kit.due("reach(0)", x.reach(0), 10);
    Kit.due("reach(1)", x.reach(1), 10);
    x = Kit.told("street 8 by 8;");
    Kit.due("reach(63)", x.reach(63), 64);
    Kit.due("reach(64)", x.reach(64), -1);
  }
}
