/** Promises 47 to 52: what is HEARD of the last CAR, FITS and ASK. */
public final class HeardTest {
  /** Of the last one WORTH is 3 * year - HOOT, and its HOOT is 1 less each YEAR. */
  private static final String TWO = "car a at 0 0 heads 0 hoots 9 body 4;car b at 1 0 heads 0 hoots 50 body 3;";

  public static void main(String[] args) {
    tell();
    times();
    fitsAndSure();
    asJamWasTold();
    knownInTwoTimes();
    asks();
    lastCarsFormula();
    withoutCars();
    Kit.finish();
  }

  private static void tell() {
    VintageJams x = Kit.told(TWO);
    Kit.due("years -1", x.heard(-1, 0, true), -1);
    Kit.due("years 21", x.heard(21, 0, true), -1);
    Kit.due("worth 10000", x.heard(0, 10000, true), -1);
    Kit.due("worth -10000", x.heard(0, -10000, true), -1);
    Kit.due("worth least", x.heard(0, Integer.MIN_VALUE, true), -1);
    Kit.due("nothing is HEARD", x.about(8), 0);
    Kit.due("heard 0", x.heard(0, 9999, false), 0);
    Kit.due("heard 1", x.heard(20, -9999, true), 1);
    Kit.due("untell(2)", x.untell(2), false);
    Kit.due("untell(-1)", x.untell(-1), false);
    Kit.due("untell(1)", x.untell(1), true);
    Kit.due("untell(1) again", x.untell(1), false);
    for (int i = 2; i < 30; i++) {
      Kit.due("heard " + i, x.heard(i % 21, -9999, true), i);
    }
    Kit.due("30 of them", x.about(8), 30);
    Kit.due("heard 30", x.heard(0, 0, true), -1);
    Kit.due("untell(29)", x.untell(29), true);
    Kit.due("untell(30)", x.untell(30), false);
    Kit.due("UNTOLD ones count", x.heard(0, 0, true), -1);
    Kit.due("all FIT", x.fits(0), 100);
    Kit.tell(x, TWO);
    Kit.due("forgotten", x.about(8), 0);
    Kit.due("untell of what is forgotten", x.untell(0), false);
    Kit.due("untell of what is forgotten", x.untell(5), false);
    Kit.due("heard 0", x.heard(0, 0, true), 0);
    Kit.due("untell(1)", x.untell(1), false);
    Kit.due("untell(0)", x.untell(0), true);
  }

  private static void times() {
    VintageJams x = new VintageJams();
    Kit.due("later(0)", x.later(0), 0);
    Kit.due("later(-1)", x.later(-1), -1);
    Kit.due("later(1001)", x.later(1001), -1);
    Kit.due("later(greatest)", x.later(Integer.MAX_VALUE), -1);
    Kit.due("about(9)", x.about(9), 0);
    for (int i = 1; i < 100; i++) {
      Kit.due("later(1000)", x.later(1000), 1000 * i);
    }
    Kit.due("later(999)", x.later(999), 99999);
    Kit.due("beyond the end", x.later(2), -1);
    Kit.due("about(9)", x.about(9), 99999);
    Kit.due("later(1)", x.later(1), 100000);
    Kit.due("later(1)", x.later(1), -1);
    Kit.due("later(0)", x.later(0), 100000);
    x.jam();
    Kit.due("the TIME stays", x.about(9), 100000);
  }

  private static void fitsAndSure() {
    VintageJams x = Kit.told(TWO);
    Kit.due("nothing HEARD", x.fits(0), 100);
    Kit.due("sure(0)", x.sure(0, 0), 0);
    Kit.due("sure(1)", x.sure(1, 0), 99);
    Kit.due("sure(2)", x.sure(2, 0), -1);
    Kit.due("sure(-1)", x.sure(-1, 0), -1);
    x.heard(0, -70, true);
    Kit.due("HOOT 70 at most", x.fits(0), 71);
    Kit.due("sure(1)", x.sure(1, 0), 70);
    x.heard(0, -30, false);
    Kit.due("HOOT more than 30", x.fits(0), 40);
    Kit.due("sure(0)", x.sure(0, 0), 31);
    // behind 10 YEARS: 30 - (HOOT - 10), so at least -20 if HOOT is 60 at most
    x.heard(10, -20, true);
    Kit.due("HOOT 60 at most", x.fits(0), 30);
    Kit.due("sure(1)", x.sure(1, 0), 60);
    x.heard(20, 21, false);
    Kit.due("60 - (HOOT - 20) below 21: more than 59", x.fits(0), 1);
    Kit.due("sure(0)", x.sure(0, 0), 60);
    Kit.due("sure(1)", x.sure(1, 0), 60);
    x.heard(0, 0, true);
    Kit.due("none FITS", x.fits(0), 0);
    Kit.due("sure(0)", x.sure(0, 0), -1);
    Kit.due("sure(1)", x.sure(1, 0), -1);
    Kit.due("ask(0)", x.ask(0, 0), -1);
    Kit.due("ask(1)", x.ask(1, 0), -1);
  }

  private static void asJamWasTold() {
    VintageJams x = Kit.told("breaks 100;worth bodied * 10 + many * 100 - hoot + year;" + TWO);
    x.polish(1);
    x.year();
    x.tow(0);
    x.tow(1);
    // 30 + 200 - HOOT at first, whatever was done
    x.heard(0, 200, true);
    Kit.due("HOOT 30 at most", x.sure(1, 0), 30);
    x.heard(5, 210, false);
    // 30 + 200 - (HOOT - 5) + 5 below 210: HOOT more than 30
    Kit.due("no lamp breaks", x.fits(0), 0);
    x.untell(0);
    Kit.due("HOOT more than 30", x.sure(0, 0), 31);
  }

  private static void knownInTwoTimes() {
    VintageJams x = Kit.told(TWO);
    x.later(3);
    x.heard(0, -10, true);
    x.later(2);
    x.heard(0, -5, true);
    x.later(5);
    x.untell(0);
    x.untell(1);
    x.heard(0, -20, true);
    x.later(1);
    x.heard(0, -1, true);
    x.untell(3);
    int[][] due = {{-1, 100}, {0, 100}, {2, 100}, {3, 11}, {4, 11}, {5, 6}, {9, 6}, {10, 21}, {11, 21}, {12, 21},
        {Integer.MAX_VALUE, 21}, {Integer.MIN_VALUE, 100}};
    for (int[] row : due) {
      Kit.due("fits(" + row[0] + ")", x.fits(row[0]), row[1]);
      Kit.due("sure(1, " + row[0] + ")", x.sure(1, row[0]), row[1] - 1);
    }
    Kit.due("ask(1, 3)", x.ask(1, 3), 1);
  }

  private static void asks() {
    VintageJams x = Kit.told(TWO);
    Kit.due("at once", x.ask(0, 0), 0);
    Kit.due("leaves one", x.ask(1, 0), 1);
    Kit.due("ask(2)", x.ask(2, 0), -1);
    Kit.due("ask(-1)", x.ask(-1, 0), -1);
    // nothing can be told at first; in year 7 by tens, in year 9 by twenties
    x = Kit.told("softens 0;worth (year = 7) * (hoot / 10) + (year = 9) * (hoot / 20);" + TWO);
    Kit.due("ask(0)", x.ask(0, 0), 7);
    Kit.due("ask(1)", x.ask(1, 0), 10);
    x = Kit.told("softens 0;worth (year = 9) * (hoot / 10) + (year = 7) * (hoot / 20);" + TWO);
    Kit.due("ask(0)", x.ask(0, 0), 9);
    Kit.due("ask(1)", x.ask(1, 0), 10);
    // of like ones the least; the last YEARS are 20
    x = Kit.told("softens 0;worth (year > 11) * (hoot % 3);" + TWO);
    Kit.due("ask(0)", x.ask(0, 0), 12);
    Kit.due("ask(1)", x.ask(1, 0), 34);
    x = Kit.told("softens 0;worth (year > 19) * (hoot % 3);" + TWO);
    Kit.due("ask(0)", x.ask(0, 0), 20);
    x = Kit.told("softens 0;worth (year > 20) * (hoot % 3);" + TWO);
    Kit.due("ask(0)", x.ask(0, 0), 0);
    Kit.due("ask(1)", x.ask(1, 0), 100);
    // only what FITS counts: among 0 .. 19 one half is as good as a row of tens
    x = Kit.told("softens 0;worth (year = 0) * (hoot < 20) + (year = 3) * (hoot < 10) + (year = 5) * (hoot < 50);" + TWO);
    Kit.due("ask(0)", x.ask(0, 0), 5);
    Kit.due("ask(1)", x.ask(1, 0), 50);
    x.heard(0, 1, true);
    Kit.due("ask(0)", x.ask(0, 0), 3);
    Kit.due("ask(1)", x.ask(1, 0), 10);
    Kit.due("as known ahead of it", x.ask(0, -1), 5);
    // HOOT goes off: those of 5 and less are alike behind 5 YEARS
    x = Kit.told("worth (year > 4) * hoot;" + TWO);
    Kit.due("ask(0)", x.ask(0, 0), 5);
    Kit.due("ask(1)", x.ask(1, 0), 6);
  }

  private static void lastCarsFormula() {
    // many is 2, lane is 0, bodied is 3, as told of the last CAR; softens counts, too
    VintageJams x = Kit.told("softens hoot / 2 + lane;worth hoot * 10 + bodied + many + year;"
        + "car a at 0 0 heads 0 hoots 9 body 4;car b at 1 5 heads 0 hoots 50 body 3;");
    x.heard(1, 100, true);
    // behind a YEAR: HOOT - (HOOT / 2 + 5): at least 10 if HOOT is 29 (14 + 5, 10 left) or more: 100 + 3 + 2 + 1
    Kit.due("sure(0)", x.sure(0, 0), 29);
    x.heard(1, 106, true);
    Kit.due("sure(0)", x.sure(0, 0), 29);
    x.heard(1, 107, true);
    Kit.due("sure(0)", x.sure(0, 0), 31);
    x.heard(2, 8, false);
    // behind two: 31 leaves 11, then 11 - 10 = 1: 10 + 3 + 2 + 2
    Kit.due("none FITS", x.fits(0), 0);
  }

  private static void withoutCars() {
    VintageJams x = new VintageJams();
    Kit.due("heard", x.heard(0, 0, true), -1);
    Kit.due("untell", x.untell(0), false);
    Kit.due("fits", x.fits(0), 0);
    Kit.due("sure", x.sure(0, 0), -1);
    Kit.due("ask", x.ask(0, 0), -1);
    Kit.due("ask", x.ask(1, 0), -1);
    // another JAM, another last CAR: nothing of the one before stays
    Kit.tell(x, TWO);
    x.fits(0);
    x.heard(0, -10, true);
    Kit.tell(x, "car a at 0 0 heads 0 hoots 9 body 7;");
    Kit.due("fits", x.fits(0), 100);
    x.heard(10, 70 - 5, true);
    Kit.due("by the new one's BODY", x.fits(0), 16);
  }
}
