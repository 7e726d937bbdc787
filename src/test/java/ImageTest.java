/** Promises 53 to 55: images in BOXES, gone on from, and what there is. */
public final class ImageTest {
  private static final String TEXT =
      "street 4 by 3;breaks 60;draw 5;car a at 0 0 heads 1 hoots 9 body 4;car b at 2 1 heads 0 hoots 5 body 7;";

  public static void main(String[] args) {
    boxes();
    about();
    Kit.finish();
  }

  private static void boxes() {
    VintageJams x = Kit.told(TEXT);
    Kit.due("image(3)", x.image(3), -1);
    Kit.due("image(-1)", x.image(-1), -1);
    Kit.due("back(3)", x.back(3), -1);
    Kit.due("back(-1)", x.back(-1), -1);
    for (int box = 0; box < 3; box++) {
      Kit.due("back of nothing", x.back(box), -1);
    }
    x.year();
    Kit.due("ACTS stay", x.about(6), 1);
    String first = Kit.state(x);
    Kit.due("image(0)", x.image(0), 1);
    Kit.due("no ACT", x.about(6), 1);
    x.tow(1);
    x.steer(0, 2);
    x.polish(0);
    x.year();
    x.year();
    String second = Kit.state(x);
    Kit.due("image(2)", x.image(2), 3);
    Kit.due("back(1)", x.back(1), -1);
    x.put(1, 11);
    x.undo();
    Kit.due("back(0)", x.back(0), 1);
    Kit.due("as it was kept", Kit.state(x).equals(first), true);
    Kit.due("no ACTS", x.about(6), 0);
    Kit.due("none to redo", x.about(7), 0);
    Kit.due("undo", x.undo(), false);
    Kit.due("redo", x.redo(), false);
    Kit.due("back(2)", x.back(2), 3);
    Kit.due("as it was kept", Kit.state(x).equals(second), true);
    Kit.due("a BOX stays full", x.back(0), 1);
    x.let(1);
    x.undo();
    Kit.due("undo to the image", Kit.state(x).equals(first), true);
    x.year();
    Kit.due("a BOX anew", x.image(0), 2);
    String third = Kit.state(x);
    x.year();
    x.back(0);
    Kit.due("as it was kept", Kit.state(x).equals(third), true);
    x.heard(0, 0, true);
    x.order();
    int lying = x.about(12);
    x.back(2);
    Kit.due("HEARD stays", x.about(8), 1);
    Kit.due("what lies stays", x.about(12), lying);
    Kit.feed(x, "street 9");
    x.jam();
    Kit.due("a FAULT leaves BOXES", x.back(0), 2);
    x.jam();
    for (int box = 0; box < 3; box++) {
      Kit.due("another JAM empties BOXES", x.back(box), -1);
    }
  }

  private static void about() {
    VintageJams x = Kit.told("worth (hoot) + 1;softens 2;" + "breaks 7;draw 12;"
        + "car a at 0 0 heads 1 hoots 9;car b at 5 5 heads 0 hoots 5;car c at 3 5 heads 0 hoots 5;");
    x.year();
    x.tow(1);
    x.year();
    x.undo();
    x.heard(0, 0, true);
    x.heard(0, 0, true);
    x.untell(0);
    x.later(77);
    x.order();
    Kit.feed(x, "hello");
    int seed = 12;
    for (int i = 0; i < 3; i++) {
      seed = (seed * 137 + 71) % 1000;
    }
    int[] due = {3, 6, 6, 5, 1, seed, 2, 1, 2, 77, 5, 4, 2, 7};
    for (int what = 0; what < due.length; what++) {
      Kit.due("about(" + what + ")", x.about(what), due[what]);
    }
    Kit.due("about(14)", x.about(14), -1);
    Kit.due("about(-1)", x.about(-1), -1);
    Kit.due("about(least)", x.about(Integer.MIN_VALUE), -1);
  }
}
