/** Edges of promises 47 to 55: what is HEARD, TIMES, FITS and ASK, images, what there is. */
public final class Edge47To55Test {
  /** Of the last one WORTH is 3 * year - HOOT, and its HOOT is 1 less each YEAR. */
  private static final String TWO = Kit.car(0, 0, 0, 0, 9, 4) + Kit.car(1, 1, 0, 0, 50, 3);
  private static final int[] WRONG_WHATS = {-1, 2, Kit.LEAST, Kit.MOST};

  public static void main(String[] args) {
    Kit.runEdges(Edge47To55Test.class, 47, 55);
    Kit.finish();
  }

  // ---- 47: heard

  static void promise47_yearsFrom0To20() {
    VintageJams x = Kit.told(TWO);
    Kit.due("0", x.heard(0, 0, true), 0);
    Kit.due("20", x.heard(20, 0, true), 1);
    String before = Kit.everything(x);
    int[] wrong = {-1, 21, Kit.LEAST, Kit.MOST};
    for (int years : wrong) {
      Kit.due("heard(" + years + ", 0, true)", x.heard(years, 0, true), -1);
    }
    Kit.due("nothing is done", Kit.everything(x), before);
  }

  static void promise47_worthsFromMinus9999To9999() {
    VintageJams x = Kit.told(TWO);
    Kit.due("-9999", x.heard(0, -9999, true), 0);
    Kit.due("9999", x.heard(0, 9999, false), 1);
    Kit.due("all FIT", x.fits(0), 100);
    String before = Kit.everything(x);
    int[] wrong = {-10000, 10000, Kit.LEAST, Kit.MOST};
    for (int worth : wrong) {
      Kit.due("heard(0, " + worth + ", true)", x.heard(0, worth, true), -1);
      Kit.due("heard(0, " + worth + ", false)", x.heard(0, worth, false), -1);
    }
    Kit.due("nothing is done", Kit.everything(x), before);
  }

  static void promise47_30AtMost() {
    VintageJams x = Kit.told(TWO);
    for (int i = 0; i < 30; i++) {
      Kit.due("heard", x.heard(0, -50 - i, true), i);
    }
    String before = Kit.everything(x);
    Kit.due("one too many", x.heard(0, 0, true), -1);
    Kit.due("nothing is done", Kit.everything(x), before);
    Kit.due("the last one counts", x.sure(1, 0), 50);
    x.untell(29);
    Kit.due("an UNTOLD one is still one", x.heard(0, 0, true), -1);
  }

  static void promise47_the30thIsAsAnyOther() {
    VintageJams x = Kit.told(TWO);
    for (int i = 0; i < 29; i++) {
      x.heard(0, -9999, true);
    }
    x.later(5);
    // behind 20 YEARS: 60 - (HOOT - 20), so at least 50 if HOOT is 30 at most
    Kit.due("heard", x.heard(20, 50, true), 29);
    Kit.due("ahead of it", x.fits(4), 100);
    Kit.due("from then on", x.fits(5), 31);
    x.later(5);
    x.untell(29);
    Kit.due("till it is UNTOLD", x.fits(9), 31);
    Kit.due("not from then on", x.fits(10), 100);
  }

  static void promise47_noneWithoutCars() {
    VintageJams x = new VintageJams();
    Kit.due("heard", x.heard(0, 0, true), -1);
    Kit.due("about(8)", x.about(8), 0);
    Kit.tell(x, "street 2 by 2;draw 7;");
    Kit.due("heard", x.heard(20, 9999, false), -1);
    Kit.due("about(8)", x.about(8), 0);
  }

  static void promise47_carsThatAreOffAreCars() {
    VintageJams x = Kit.told(TWO);
    x.tow(0);
    x.tow(1);
    Kit.due("heard", x.heard(0, -10, true), 0);
    Kit.due("of the JAM as it was told", x.fits(0), 11);
  }

  static void promise47_soMuchAtLeastOrNot() {
    VintageJams x = Kit.told(TWO);
    x.heard(0, -50, true);
    Kit.due("just so much", x.sure(1, 0), 50);
    x.heard(0, -49, false);
    Kit.due("one less", x.sure(0, 0), 50);
  }

  // ---- 48: untell

  static void promise48_noneSuch() {
    VintageJams x = Kit.told(TWO);
    Kit.due("nothing is HEARD", x.untell(0), false);
    x.heard(0, -10, true);
    String before = Kit.everything(x);
    int[] wrong = {-1, 1, 29, 30, Kit.LEAST, Kit.MOST};
    for (int heard : wrong) {
      Kit.due("untell(" + heard + ")", x.untell(heard), false);
    }
    Kit.due("nothing is done", Kit.everything(x), before);
  }

  static void promise48_theFirstAndTheLastOf30() {
    VintageJams x = Kit.told(TWO);
    for (int i = 0; i < 30; i++) {
      x.heard(0, -50 + i, true);
    }
    Kit.due("untell(0)", x.untell(0), true);
    Kit.due("as before", x.sure(1, 0), 21);
    Kit.due("untell(29)", x.untell(29), true);
    Kit.due("one more FITS", x.sure(1, 0), 22);
  }

  static void promise48_soAlready() {
    VintageJams x = Kit.told(TWO);
    x.later(5);
    x.heard(0, -10, true);
    x.later(5);
    Kit.due("untell", x.untell(0), true);
    x.later(5);
    Kit.due("again", x.untell(0), false);
    // it stays UNTOLD at 10, not at 15
    Kit.due("at 9", x.fits(9), 11);
    Kit.due("at 10", x.fits(10), 100);
    Kit.due("at 14", x.fits(14), 100);
  }

  static void promise48_atTheSameTime() {
    VintageJams x = Kit.told(TWO);
    x.heard(0, -10, true);
    Kit.due("untell", x.untell(0), true);
    Kit.due("it never counts", x.fits(-1) + x.fits(0) + x.fits(1), 300);
    Kit.due("again", x.untell(0), false);
  }

  // ---- 49: later

  static void promise49_from0To1000() {
    VintageJams x = new VintageJams();
    Kit.due("later(0)", x.later(0), 0);
    Kit.due("later(1)", x.later(1), 1);
    Kit.due("later(1000)", x.later(1000), 1001);
    Kit.due("about(9)", x.about(9), 1001);
  }

  static void promise49_anotherNumberDoesNothing() {
    VintageJams x = Kit.told(TWO);
    x.later(7);
    String before = Kit.everything(x);
    int[] wrong = {-1, 1001, Kit.LEAST, Kit.MOST};
    for (int by : wrong) {
      Kit.due("later(" + by + ")", x.later(by), -1);
    }
    Kit.due("nothing is done", Kit.everything(x), before);
  }

  static void promise49_100000AtMost() {
    VintageJams x = new VintageJams();
    for (int i = 0; i < 99; i++) {
      x.later(1000);
    }
    x.later(1);
    Kit.due("one above", x.later(1000), -1);
    Kit.due("nothing is done", x.about(9), 99001);
    Kit.due("just so much", x.later(999), 100000);
    Kit.due("one above", x.later(1), -1);
    Kit.due("nothing is done", x.about(9), 100000);
    Kit.due("0 is not above", x.later(0), 100000);
    Kit.tell(x, TWO);
    x.heard(0, -10, true);
    Kit.due("at the last TIME", x.fits(100000), 11);
    Kit.due("before", x.fits(99999), 100);
    Kit.due("it can be UNTOLD then", x.untell(0), true);
  }

  // ---- 50: fits

  static void promise50_0WithoutCars() {
    int[] times = {0, -1, Kit.LEAST, Kit.MOST};
    for (int k : times) {
      Kit.due("fits(" + k + ")", new VintageJams().fits(k), 0);
    }
    Kit.due("a street alone", Kit.told("street 2 by 2;").fits(0), 0);
  }

  static void promise50_fromNoneToAll100() {
    VintageJams x = Kit.told(TWO);
    Kit.due("nothing is HEARD", x.fits(0), 100);
    x.heard(0, 0, true);
    Kit.due("HOOT 0 alone", x.fits(0), 1);
    x.heard(0, 0, false);
    Kit.due("none", x.fits(0), 0);
  }

  static void promise50_toldAtKOrBefore() {
    VintageJams x = Kit.told(TWO);
    x.later(5);
    x.heard(0, -10, true);
    Kit.due("fits(4)", x.fits(4), 100);
    Kit.due("fits(5)", x.fits(5), 11);
    Kit.due("fits(6)", x.fits(6), 11);
    Kit.due("fits(least)", x.fits(Kit.LEAST), 100);
    Kit.due("fits(most)", x.fits(Kit.MOST), 11);
  }

  static void promise50_notUntoldAtKOrBefore() {
    VintageJams x = Kit.told(TWO);
    x.heard(0, -10, true);
    x.later(5);
    x.untell(0);
    Kit.due("fits(-1)", x.fits(-1), 100);
    Kit.due("fits(0)", x.fits(0), 11);
    Kit.due("fits(4)", x.fits(4), 11);
    Kit.due("fits(5)", x.fits(5), 100);
    Kit.due("fits(most)", x.fits(Kit.MOST), 100);
  }

  static void promise50_behind0To20Years() {
    VintageJams x = Kit.told("worth (year = 0) * (hoot < 50);" + TWO);
    x.heard(0, 1, true);
    Kit.due("behind 0", x.fits(0), 50);
    x = Kit.told("worth (year = 20) * (hoot < 50);" + TWO);
    x.heard(20, 1, true);
    // behind 20 YEARS the HOOT is 20 less
    Kit.due("behind 20", x.fits(0), 70);
    Kit.due("the least", x.sure(0, 0), 0);
    Kit.due("the greatest", x.sure(1, 0), 69);
  }

  static void promise50_hootsGoOffTo0AtLeastAndNoLampBreaks() {
    VintageJams x = Kit.told("breaks 100;worth bodied * 10 - hoot;" + TWO);
    x.heard(20, 30, true);
    Kit.due("HOOT 20 at most is 0 then", x.fits(0), 21);
  }

  static void promise50_nothingDoneCounts() {
    VintageJams x = Kit.told("worth many * 10 + bodied - hoot;" + TWO);
    x.heard(0, 20 + 3 - 10, true);
    x.polish(1);
    x.year();
    x.tow(0);
    Kit.due("fits", x.fits(0), 11);
    x.tow(1);
    Kit.due("fits", x.fits(0), 11);
  }

  static void promise50_ofAnotherJam() {
    VintageJams x = Kit.told(TWO);
    x.heard(0, -10, true);
    Kit.due("fits", x.fits(0), 11);
    Kit.tell(x, "worth hoot;" + TWO);
    Kit.due("nothing is HEARD", x.fits(0), 100);
    x.heard(0, 10, true);
    Kit.due("by the new worth", x.fits(0), 90);
  }

  static void promise50_theHootAsToldDoesNotCount() {
    VintageJams x = Kit.told(TWO);
    x.heard(0, -10, true);
    Kit.due("50 was told, but is not known", x.sure(1, 0), 10);
  }

  static void promise50_nothingIsDoneByThisNorByPromises51And52() {
    VintageJams x = Kit.told("breaks 100;" + TWO);
    x.year();
    x.year();
    x.undo();
    x.heard(3, -10, true);
    x.later(3);
    x.untell(0);
    x.order();
    String before = Kit.everything(x);
    for (int k = -1; k < 5; k++) {
      x.fits(k);
      x.sure(0, k);
      x.sure(1, k);
      x.ask(0, k);
      x.ask(1, k);
    }
    Kit.due("all is as before", Kit.everything(x), before);
  }

  // ---- 51: sure

  static void promise51_from0To99() {
    VintageJams x = Kit.told(TWO);
    Kit.due("the least", x.sure(0, 0), 0);
    Kit.due("the greatest", x.sure(1, 0), 99);
    x.heard(0, -98, false);
    Kit.due("99 alone: the least", x.sure(0, 0), 99);
    Kit.due("99 alone: the greatest", x.sure(1, 0), 99);
    x = Kit.told(TWO);
    x.heard(0, 0, true);
    Kit.due("0 alone: the least", x.sure(0, 0), 0);
    Kit.due("0 alone: the greatest", x.sure(1, 0), 0);
  }

  static void promise51_noneIfNoneFits() {
    VintageJams x = Kit.told(TWO);
    x.heard(0, 1, true);
    Kit.due("sure(0, 0)", x.sure(0, 0), -1);
    Kit.due("sure(1, 0)", x.sure(1, 0), -1);
    Kit.due("as known ahead of it", x.sure(1, -1), 99);
    Kit.due("without CARS", new VintageJams().sure(0, 0), -1);
    Kit.due("without CARS", new VintageJams().sure(1, 0), -1);
  }

  static void promise51_anotherWhat() {
    VintageJams x = Kit.told(TWO);
    for (int what : WRONG_WHATS) {
      Kit.due("sure(" + what + ", 0)", x.sure(what, 0), -1);
    }
  }

  static void promise51_atTheEdgesOfTimes() {
    VintageJams x = Kit.told(TWO);
    x.later(5);
    x.heard(0, -10, true);
    x.later(5);
    x.untell(0);
    Kit.due("at 4", x.sure(1, 4), 99);
    Kit.due("at 5", x.sure(1, 5), 10);
    Kit.due("at 9", x.sure(1, 9), 10);
    Kit.due("at 10", x.sure(1, 10), 99);
  }

  // ---- 52: ask

  private static void dueAsk(VintageJams x, int years, int left) {
    Kit.due("ask(0)", x.ask(0, 0), years);
    Kit.due("ask(1)", x.ask(1, 0), left);
  }

  static void promise52_from0To20Years() {
    dueAsk(Kit.told(TWO), 0, 1);
    dueAsk(Kit.told("softens 0;worth (year = 20) * (hoot < 50);" + TWO), 20, 50);
    dueAsk(Kit.told("softens 0;worth (year = 19) * (hoot < 50);" + TWO), 19, 50);
    // what 21 YEARS would tell does not count
    dueAsk(Kit.told("softens 0;worth (year = 21) * (hoot < 50);" + TWO), 0, 100);
  }

  static void promise52_ofLikeOnesTheLeast() {
    dueAsk(Kit.told("softens 0;worth 7;" + TWO), 0, 100);
    dueAsk(Kit.told("softens 0;worth (year > 11) * (hoot < 50);" + TWO), 12, 50);
  }

  static void promise52_theFewestAtTheMost() {
    // in year 2 one answer leaves 41 (0, 60 .. 99), the others 1; in year 3 one leaves 55, one 45
    dueAsk(Kit.told("softens 0;worth (year = 2) * (hoot < 60) * hoot + (year = 3) * (hoot < 55);" + TWO), 2, 41);
    // in year 2 one answer leaves 60, in year 3 one 55
    dueAsk(Kit.told("softens 0;worth (year = 2) * (hoot < 60) + (year = 3) * (hoot < 55);" + TWO), 3, 55);
  }

  static void promise52_oneFits() {
    VintageJams x = Kit.told("softens 0;worth 0 - hoot;" + TWO);
    x.heard(0, 0, true);
    dueAsk(x, 0, 1);
  }

  static void promise52_noneIfNoneFits() {
    VintageJams x = Kit.told(TWO);
    x.heard(0, 1, true);
    dueAsk(x, -1, -1);
    Kit.due("as known ahead of it", x.ask(1, -1), 1);
    dueAsk(new VintageJams(), -1, -1);
  }

  static void promise52_anotherWhat() {
    VintageJams x = Kit.told(TWO);
    for (int what : WRONG_WHATS) {
      Kit.due("ask(" + what + ", 0)", x.ask(what, 0), -1);
    }
  }

  // ---- 53: image

  static void promise53_boxesFrom0To2() {
    VintageJams x = Kit.told(TWO);
    for (int box = 0; box < 3; box++) {
      Kit.due("image(" + box + ")", x.image(box), box);
      x.year();
    }
    for (int box = 0; box < 3; box++) {
      Kit.due("back(" + box + ")", x.back(box), box);
      Kit.due("the year", x.about(4), box);
    }
  }

  static void promise53_noneSuch() {
    VintageJams x = Kit.told(TWO);
    x.image(0);
    x.image(2);
    x.year();
    int[] wrong = {-1, 3, Kit.LEAST, Kit.MOST};
    for (int box : wrong) {
      Kit.due("image(" + box + ")", x.image(box), -1);
    }
    Kit.due("BOX 1 is empty", x.back(1), -1);
    Kit.due("BOX 0 is as it was", x.back(0), 0);
    Kit.due("BOX 2 is as it was", x.back(2), 0);
  }

  static void promise53_itIsNoAct() {
    VintageJams x = Kit.told(TWO);
    x.year();
    x.year();
    x.undo();
    String before = Kit.everything(x);
    Kit.due("image", x.image(0), 1);
    Kit.due("all is as before", Kit.everything(x), before);
    Kit.due("redo", x.redo(), true);
  }

  static void promise53_aFullBoxIsKeptAnew() {
    VintageJams x = Kit.told(TWO);
    x.image(0);
    x.year();
    Kit.due("image", x.image(0), 1);
    x.year();
    Kit.due("back", x.back(0), 1);
  }

  static void promise53_ofAnEmptyJam() {
    VintageJams x = new VintageJams();
    x.year();
    Kit.due("image", x.image(2), 1);
    x.undo();
    Kit.due("back", x.back(2), 1);
  }

  // ---- 54: back

  static void promise54_nothingWasKept() {
    VintageJams x = Kit.told(TWO);
    x.year();
    x.year();
    x.undo();
    x.image(1);
    String before = Kit.everything(x);
    int[] wrong = {-1, 0, 2, 3, Kit.LEAST, Kit.MOST};
    for (int box : wrong) {
      Kit.due("back(" + box + ")", x.back(box), -1);
    }
    Kit.due("nothing is done", Kit.everything(x), before);
  }

  static void promise54_allIsAsItWasKept() {
    VintageJams x = Kit.told("breaks 60;draw 5;" + TWO);
    x.steer(0, 2);
    x.polish(0);
    x.year();
    x.tow(1);
    String kept = Kit.state(x);
    x.image(0);
    x.put(1, 35);
    x.steer(0, 1);
    x.polish(1);
    x.year();
    x.tow(0);
    Kit.due("back", x.back(0), 1);
    Kit.due("as it was kept", Kit.state(x), kept);
    Kit.due("who was OFF is OFF", x.about(3), 1);
  }

  static void promise54_ofTheEighthCarToo() {
    VintageJams x = Kit.told(Kit.eightInARow(0).replace("hoots 0", "hoots 9 body 4"));
    String kept = Kit.state(x);
    x.image(2);
    x.polish(7);
    x.steer(7, 1);
    x.year();
    x.tow(7);
    x.back(2);
    Kit.due("as it was kept", Kit.state(x), kept);
  }

  static void promise54_noActsAreKeptThen() {
    VintageJams x = Kit.told(TWO);
    x.year();
    x.image(0);
    x.year();
    x.year();
    x.undo();
    x.back(0);
    Kit.due("about(6)", x.about(6), 0);
    Kit.due("about(7)", x.about(7), 0);
    Kit.due("undo", x.undo(), false);
    Kit.due("redo", x.redo(), false);
    x.year();
    Kit.due("undo", x.undo(), true);
    Kit.due("to what was kept", x.about(4), 1);
  }

  static void promise54_aBoxStaysAsItIs() {
    VintageJams x = Kit.told(TWO);
    x.image(0);
    x.year();
    Kit.due("back", x.back(0), 0);
    x.year();
    x.year();
    Kit.due("back again", x.back(0), 0);
    Kit.due("the year", x.about(4), 0);
  }

  static void promise54_onlyWhatWasKeptChanges() {
    VintageJams x = Kit.told(TWO);
    x.image(0);
    x.heard(0, 0, true);
    x.later(5);
    x.order();
    Kit.feed(x, "draw");
    x.back(0);
    Kit.due("HEARD", x.about(8), 1);
    Kit.due("the TIME", x.about(9), 5);
    Kit.due("the TAPE", x.about(10), 4);
    Kit.due("what lies there", x.about(12), 2);
  }

  static void promise54_emptyBehindAnotherJamButNotBehindAFault() {
    VintageJams x = Kit.told(TWO);
    x.image(0);
    Kit.tell(x, "?");
    Kit.due("behind a FAULT", x.back(0), 0);
    Kit.tell(x, TWO);
    Kit.due("behind another JAM", x.back(0), -1);
  }

  // ---- 55: about

  static void promise55_anotherWhat() {
    VintageJams x = Kit.told(TWO);
    int[] wrong = {-1, 14, Kit.LEAST, Kit.MOST};
    for (int what : wrong) {
      Kit.due("about(" + what + ")", x.about(what), -1);
    }
  }

  static void promise55_theLeastOfEach() {
    VintageJams x = Kit.told("street 1 by 1;");
    int[] due = {0, 1, 1, 0, 0, 0, 0, 0, 0, 0, 0, 0, 0, 0};
    for (int what = 0; what < due.length; what++) {
      Kit.due("about(" + what + ")", x.about(what), due[what]);
    }
  }

  static void promise55_theMostOfWhatIsTold() {
    String thirty = "1" + Kit.repeat("+1", 29) + ";";
    VintageJams x = Kit.told(Kit.eightInARow(0).replace("8 by 1", "8 by 8") + "draw 999;breaks 100;worth " + thirty
        + "softens " + thirty);
    Kit.due("CARS", x.about(0), 8);
    Kit.due("COLUMNS", x.about(1), 8);
    Kit.due("ROWS", x.about(2), 8);
    Kit.due("who is IN", x.about(3), 255);
    Kit.due("the SEED", x.about(5), 999);
    Kit.due("units", x.about(11), 60);
    Kit.due("breaks", x.about(13), 100);
  }

  static void promise55_theMostOfWhatIsDone() {
    VintageJams x = Kit.told(TWO);
    for (int i = 0; i < 41; i++) {
      x.year();
    }
    Kit.due("the year", x.about(4), 41);
    Kit.due("ACTS that can be undone", x.about(6), 40);
    Kit.due("redone", x.about(7), 0);
    for (int i = 0; i < 41; i++) {
      x.undo();
    }
    Kit.due("ACTS that can be undone", x.about(6), 0);
    Kit.due("redone", x.about(7), 40);
    for (int i = 0; i < 31; i++) {
      x.heard(0, 0, true);
    }
    Kit.due("what is HEARD", x.about(8), 30);
    for (int i = 0; i < 101; i++) {
      x.later(1000);
    }
    Kit.due("the TIME", x.about(9), 100000);
    for (int i = 0; i < 81; i++) {
      x.feed(0, 0, 0, 0, 0);
    }
    Kit.due("bytes on the TAPE", x.about(10), 1600);
  }

  static void promise55_16NumbersLieThereAtMost() {
    StringBuilder text = new StringBuilder("street 8 by 4;");
    for (int column = 0; column < 7; column++) {
      text.append(Kit.car(column, column, 1, 0, 0));
    }
    VintageJams x = Kit.told(text.append(Kit.car(7, 0, 3, 0, 0)).toString());
    x.window(2, 7);
    Kit.due("15", x.about(12), 15);
    x.window(1, 7);
    Kit.due("16", x.about(12), 16);
    x.window(0, 7);
    Kit.due("16 of 17", x.about(12), 16);
  }

  static void promise55_whoIsInWhenAllAreOff() {
    VintageJams x = Kit.told(TWO);
    x.tow(0);
    Kit.due("one", x.about(3), 2);
    x.tow(1);
    Kit.due("nobody", x.about(3), 0);
    Kit.due("CARS they are", x.about(0), 2);
  }
}
