import java.util.List;

/** Edges of promises 1 to 5: a new object, the TAPE, what a text may tell, its FAULTS. */
public final class Edge01To05Test {
  private static final String CAR = "car a at 0 0 heads 0 hoots 0";
  private static final String[] WORDS = {
    "street", "by", "car", "at", "heads", "hoots", "body", "softens", "worth", "breaks", "draw", "or", "and", "not",
    "hoot", "bodied", "many", "lane", "year"
  };
  private static final String THIRTY = "1" + Kit.repeat("+1", 29);

  public static void main(String[] args) {
    Kit.runEdges(Edge01To05Test.class, 1, 5);
    Kit.finish();
  }

  private static VintageJams good(String text, int cars) {
    VintageJams x = new VintageJams();
    Kit.due("jam() of '" + text + "'", Kit.tell(x, text), cars);
    Kit.due("fault(0) of '" + text + "'", x.fault(0), 0);
    Kit.due("fault(1) of '" + text + "'", x.fault(1), -1);
    return x;
  }

  private static void fault(String text, int fault, int place) {
    VintageJams x = new VintageJams();
    Kit.due("jam() of '" + text + "'", Kit.tell(x, text), -1);
    Kit.due("fault(0) of '" + text + "'", x.fault(0), fault);
    Kit.due("fault(1) of '" + text + "'", x.fault(1), place);
  }

  /** The FAULT is at the end of what is told of it, ahead of what comes behind. */
  private static void faultBehind(String good, String bad, int fault) {
    fault(good + bad, fault, good.length());
  }

  private static VintageJams filled(int bytes) {
    VintageJams x = new VintageJams();
    while (x.about(10) < bytes) {
      x.feed(Kit.BLANKS, Kit.BLANKS, Kit.BLANKS, Kit.BLANKS, Kit.BLANKS);
    }
    x.end(bytes);
    return x;
  }

  private static int feedBlanks(VintageJams x) {
    return x.feed(Kit.BLANKS, Kit.BLANKS, Kit.BLANKS, Kit.BLANKS, Kit.BLANKS);
  }

  // ---- 1: a new object

  static void promise01_aNewObjectHas6By6CellsAndNoCars() {
    VintageJams x = new VintageJams();
    Kit.due("CARS", x.about(0), 0);
    Kit.due("COLUMNS", x.about(1), 6);
    Kit.due("ROWS", x.about(2), 6);
    for (int cell = 0; cell < 36; cell++) {
      Kit.due("spot(" + cell + ")", x.spot(cell), -1);
      Kit.due("lines(" + cell + ")", x.lines(cell), 0);
    }
    Kit.due("the last CELL", x.reach(35), 36);
    Kit.due("the first CELL beyond", x.reach(36), -1);
  }

  static void promise01_inANewObjectNothingIsKept() {
    VintageJams x = new VintageJams();
    for (int what = 3; what <= 13; what++) {
      Kit.due("about(" + what + ")", x.about(what), 0);
    }
    Kit.due("undo", x.undo(), false);
    Kit.due("redo", x.redo(), false);
    for (int box = 0; box < 3; box++) {
      Kit.due("back(" + box + ")", x.back(box), -1);
    }
    Kit.due("lies(0)", x.lies(0), -1);
    Kit.due("untell(0)", x.untell(0), false);
  }

  static void promise01_anEmptyJamAnswersAllThatAsksForACarWithNone() {
    VintageJams x = new VintageJams();
    Kit.due("car(0, 0)", x.car(0, 0), -2);
    Kit.due("worth(0)", x.worth(0), Kit.NO_PRICE);
    Kit.due("let(0)", x.let(0), -1);
    Kit.due("tow(0)", x.tow(0), -1);
    Kit.due("polish(0)", x.polish(0), -1);
    Kit.due("steer(0, 1)", x.steer(0, 1), -1);
    Kit.due("put(0, 0)", x.put(0, 0), -1);
    Kit.due("ahead(0)", x.ahead(0), -1);
    Kit.due("lot(0)", x.lot(0), -1);
    Kit.due("until(0)", x.until(0), -1);
    Kit.due("softer(0)", x.softer(0), -1);
    Kit.due("hoot(0, 0)", x.hoot(0, 0), -1);
    Kit.due("window(0, 0)", x.window(0, 0), -1);
    Kit.due("sale(0, 1)", x.sale(0, 1), -1);
    Kit.due("odds(0, 0, 0)", x.odds(0, 0, 0), -1);
    Kit.due("heard(0, 0, true)", x.heard(0, 0, true), -1);
    Kit.due("no ACT was done", x.about(6), 0);
  }

  static void promise01_oneObjectIsNotAnother() {
    VintageJams x = Kit.told(CAR + ";draw 7;");
    VintageJams y = new VintageJams();
    x.year();
    x.later(3);
    Kit.due("CARS", y.about(0), 0);
    Kit.due("the year", y.about(4), 0);
    Kit.due("the TIME", y.about(9), 0);
  }

  // ---- 2: feed

  static void promise02_theFirstFeedMakes20() {
    Kit.due("feed", feedBlanks(new VintageJams()), 20);
  }

  static void promise02_bytesComeInOrderOfEachNumberTheHighestFirst() {
    VintageJams x = new VintageJams();
    // "draw" " 123" ";bre" "aks " "45; "
    Kit.due("feed", x.feed(0x64726177, 0x20313233, 0x3b627265, 0x616b7320, 0x34353b20), 20);
    Kit.due("jam", x.jam(), 0);
    Kit.due("draw", x.about(5), 123);
    Kit.due("breaks", x.about(13), 45);
  }

  static void promise02_aByteOf255IsOneByteOnEachPlace() {
    for (int place = 0; place < 20; place++) {
      int[] numbers = {Kit.BLANKS, Kit.BLANKS, Kit.BLANKS, Kit.BLANKS, Kit.BLANKS};
      numbers[place / 4] |= 255 << (24 - place % 4 * 8);
      VintageJams x = new VintageJams();
      x.feed(numbers[0], numbers[1], numbers[2], numbers[3], numbers[4]);
      Kit.due("jam", x.jam(), -1);
      Kit.due("its FAULT", x.fault(0), 1);
      Kit.due("its place", x.fault(1), place);
    }
  }

  static void promise02_theEightiethFeedMakes1600() {
    VintageJams x = filled(1580);
    Kit.due("feed", feedBlanks(x), 1600);
    Kit.due("about(10)", x.about(10), 1600);
  }

  static void promise02_nothingComesToAFullTape() {
    VintageJams x = filled(1600);
    Kit.due("feed", x.feed(-1, -1, -1, -1, -1), -1);
    Kit.due("about(10)", x.about(10), 1600);
    Kit.due("jam: only blanks", x.jam(), 0);
  }

  static void promise02_nothingComesIfThereWouldBe1601() {
    VintageJams x = filled(1581);
    Kit.due("feed", x.feed(-1, -1, -1, -1, -1), -1);
    Kit.due("about(10)", x.about(10), 1581);
    Kit.due("end(1582)", x.end(1582), -1);
    Kit.due("jam: only blanks", x.jam(), 0);
  }

  static void promise02_bytesComeBehindWhatEndLeft() {
    VintageJams x = new VintageJams();
    Kit.feed(x, "draw 7");
    // "23;" and blanks
    Kit.due("feed", x.feed(0x32333b20, Kit.BLANKS, Kit.BLANKS, Kit.BLANKS, Kit.BLANKS), 26);
    Kit.due("jam", x.jam(), 0);
    Kit.due("draw", x.about(5), 723);
  }

  static void promise02_aTapeUsedByJamTakes1600Anew() {
    VintageJams x = filled(1600);
    x.jam();
    Kit.due("feed", feedBlanks(x), 20);
  }

  // ---- 3: end

  static void promise03_anEmptyTapeHasItsFirst0Bytes() {
    VintageJams x = new VintageJams();
    Kit.due("end(0)", x.end(0), 0);
    Kit.due("end(1)", x.end(1), -1);
  }

  static void promise03_allBytesMayStay() {
    VintageJams x = filled(40);
    Kit.due("end(40)", x.end(40), 40);
    Kit.due("about(10)", x.about(10), 40);
    x = filled(1600);
    Kit.due("end(1600)", x.end(1600), 1600);
    Kit.due("about(10)", x.about(10), 1600);
  }

  static void promise03_oneByteTooManyDoesNothing() {
    VintageJams x = filled(40);
    Kit.due("end(41)", x.end(41), -1);
    Kit.due("about(10)", x.about(10), 40);
    x = filled(1600);
    Kit.due("end(1601)", x.end(1601), -1);
    Kit.due("end(most)", x.end(Kit.MOST), -1);
    Kit.due("about(10)", x.about(10), 1600);
  }

  static void promise03_below0DoesNothing() {
    VintageJams x = filled(40);
    Kit.due("end(-1)", x.end(-1), -1);
    Kit.due("end(least)", x.end(Kit.LEAST), -1);
    Kit.due("about(10)", x.about(10), 40);
  }

  static void promise03_end0EmptiesTheTape() {
    VintageJams x = new VintageJams();
    Kit.feed(x, "draw 7;");
    Kit.due("end(0)", x.end(0), 0);
    Kit.due("about(10)", x.about(10), 0);
    Kit.due("jam", x.jam(), 0);
    Kit.due("draw", x.about(5), 0);
  }

  static void promise03_whatWasCutDoesNotComeBack() {
    VintageJams x = filled(40);
    x.end(39);
    Kit.due("end(40)", x.end(40), -1);
    Kit.due("end(39)", x.end(39), 39);
  }

  static void promise03_bytesBehindTheEndDoNotCount() {
    VintageJams x = new VintageJams();
    Kit.feed(x, "draw 123;?");
    x.end(9);
    Kit.due("without the last byte", x.jam(), 0);
    Kit.due("draw", x.about(5), 123);
    // an N at the end with a letter, a digit cut off behind it: what is missing is the sign
    fault("draw 1", 2, 6);
    Kit.feed(x, "draw 1a;");
    x.end(6);
    Kit.due("jam", x.jam(), -1);
    Kit.due("fault(0)", x.fault(0), 2);
    Kit.due("fault(1)", x.fault(1), 6);
    Kit.feed(x, "breaks 10;draw 99;");
    x.end(8);
    Kit.due("jam", x.jam(), -1);
    Kit.due("fault(1)", x.fault(1), 8);
    Kit.feed(x, "car abcdefghi");
    x.end(12);
    Kit.due("jam", x.jam(), -1);
    Kit.due("a word of 8, its ninth letter cut off", x.fault(1), 12);
  }

  // ---- 4: jam, what becomes of the object

  /** With CARS, ACTS to undo and redo, HEARD, a TIME, a full BOX, something that lies there. */
  private static VintageJams lived() {
    VintageJams x = Kit.told("street 4 by 3;breaks 30;draw 5;worth hoot+2;softens 2;"
        + Kit.car(0, 0, 0, 1, 9, 4) + Kit.car(1, 2, 2, 0, 50, 7));
    x.later(5);
    x.heard(0, 10, true);
    x.year();
    x.image(1);
    x.tow(0);
    x.year();
    x.undo();
    x.order();
    return x;
  }

  static void promise04_anEmptyTapeIsAnEmptyJam() {
    VintageJams x = lived();
    Kit.due("jam", x.jam(), 0);
    Kit.due("CARS", x.about(0), 0);
    Kit.due("COLUMNS", x.about(1), 6);
    Kit.due("ROWS", x.about(2), 6);
    Kit.due("SEED", x.about(5), 0);
    Kit.due("units", x.about(11), 0);
    Kit.due("breaks", x.about(13), 0);
  }

  static void promise04_blanksAloneAreAnEmptyJam() {
    good(" ", 0);
    good("\n", 0);
    good(Kit.repeat(" \n", 800), 0);
  }

  static void promise04_theTapeIsEmptyThen() {
    VintageJams x = new VintageJams();
    Kit.due("jam", Kit.tell(x, CAR + ";"), 1);
    Kit.due("about(10)", x.about(10), 0);
    Kit.due("the next jam() is an empty one", x.jam(), 0);
  }

  static void promise04_theTapeIsEmptyBehindAFault() {
    VintageJams x = new VintageJams();
    Kit.due("jam", Kit.tell(x, "?"), -1);
    Kit.due("about(10)", x.about(10), 0);
    Kit.due("end(1)", x.end(1), -1);
    Kit.due("the next jam() is an empty one", x.jam(), 0);
  }

  static void promise04_theYearIs0Then() {
    VintageJams x = lived();
    Kit.tell(x, CAR + ";draw 33;");
    Kit.due("the year", x.about(4), 0);
    Kit.due("the SEED", x.about(5), 33);
  }

  static void promise04_allIsAsToldThen() {
    VintageJams x = Kit.told(CAR + " body 3;");
    x.polish(0);
    x.steer(0, 2);
    x.tow(0);
    Kit.tell(x, "car b at 5 5 heads 3 hoots 8;");
    int[] due = {35, 3, 8, 1, 0, 0};
    for (int what = 0; what < due.length; what++) {
      Kit.due("car(0, " + what + ")", x.car(0, what), due[what]);
    }
  }

  static void promise04_noActsAreKeptThen() {
    VintageJams x = lived();
    Kit.due("ACTS before", x.about(6) * 10 + x.about(7), 21);
    Kit.tell(x, CAR + ";");
    Kit.due("about(6)", x.about(6), 0);
    Kit.due("about(7)", x.about(7), 0);
    Kit.due("undo", x.undo(), false);
    Kit.due("redo", x.redo(), false);
  }

  static void promise04_nothingIsHeardThen() {
    VintageJams x = lived();
    Kit.tell(x, CAR + ";");
    Kit.due("about(8)", x.about(8), 0);
    Kit.due("untell(0)", x.untell(0), false);
    Kit.due("fits", x.fits(5), 100);
    Kit.due("numbers begin anew", x.heard(0, 0, true), 0);
  }

  static void promise04_nothingLiesThereThen() {
    VintageJams x = lived();
    Kit.due("before", x.about(12), 1);
    Kit.tell(x, CAR + ";");
    Kit.due("about(12)", x.about(12), 0);
    Kit.due("lies(0)", x.lies(0), -1);
  }

  static void promise04_boxesAreEmptyThen() {
    VintageJams x = lived();
    x.image(0);
    x.image(2);
    Kit.tell(x, CAR + ";");
    for (int box = 0; box < 3; box++) {
      Kit.due("back(" + box + ")", x.back(box), -1);
    }
  }

  static void promise04_theTimeStays() {
    VintageJams x = lived();
    Kit.tell(x, CAR + ";");
    Kit.due("about(9)", x.about(9), 5);
  }

  static void promise04_behindAFaultAllStays() {
    VintageJams x = lived();
    String before = Kit.everything(x).replace("fault 0 -1", "fault 2 23");
    Kit.due("jam", Kit.tell(x, "street 2 by 2;draw 999;draw 1;"), -1);
    Kit.due("all", Kit.everything(x), before);
    Kit.due("redo", x.redo(), true);
    Kit.due("the year", x.about(4), 2);
    Kit.due("undo", x.undo(), true);
    Kit.due("undo", x.undo(), true);
    Kit.due("IN again", x.about(3), 3);
    Kit.due("the BOX", x.back(1), 1);
  }

  static void promise04_carsAreFrom0To8() {
    StringBuilder text = new StringBuilder();
    for (int count = 0; count <= 8; count++) {
      VintageJams x = good(text.toString(), count);
      Kit.due("about(0)", x.about(0), count);
      Kit.due("about(3)", x.about(3), (1 << count) - 1);
      text.append(Kit.car(count, count % 6, count / 6, 0, 0));
    }
  }

  // ---- 4: jam, what can be told

  static void promise04_aTextMayHave1600Bytes() {
    VintageJams x = good(Kit.repeat(" ", 1593) + "draw 7;", 0);
    Kit.due("the last one counts", x.about(5), 7);
  }

  static void promise04_theEighthCarIsAsTold() {
    VintageJams x = good(Kit.eightInARow(0).replace("at 7 0 heads 0 hoots 0", "at 7 0 heads 3 hoots 99 body 9"), 8);
    int[] due = {7, 3, 99, 9, 127, 0};
    for (int what = 0; what < due.length; what++) {
      Kit.due("car(7, " + what + ")", x.car(7, what), due[what]);
    }
  }

  static void promise04_nothingThatTheJamBeforeToldStays() {
    VintageJams x = Kit.told("street 3 by 2;softens 1 + 2;worth 3 + 4;breaks 5;draw 6;" + CAR + " body 7;");
    Kit.due("the same NAME, the same CELL", Kit.tell(x, "softens 4;worth 5;" + CAR + ";"), 1);
    Kit.due("worth", x.worth(0), 5);
    Kit.due("units", x.about(11), 2);
    Kit.due("COLUMNS", x.about(1), 6);
    Kit.due("ROWS", x.about(2), 6);
    Kit.due("SEED", x.about(5), 0);
    Kit.due("breaks", x.about(13), 0);
    Kit.due("BODY", x.car(0, 3), 1);
    Kit.tell(x, Kit.car(0, 0, 0, 0, 9));
    Kit.due("softer, not told", x.softer(0), 1);
    Kit.due("worth, not told", x.worth(0), -9);
    Kit.due("units", x.about(11), 0);
  }

  static void promise04_nothingThatATextWithAFaultToldStays() {
    VintageJams x = Kit.told(Kit.car(0, 0, 0, 0, 9));
    Kit.tell(x, "street 3 by 2;softens 7;worth 8;breaks 5;draw 6;" + CAR + " body 7;?");
    Kit.due("softer", x.softer(0), 1);
    Kit.due("worth", x.worth(0), -9);
    Kit.tell(x, Kit.car(0, 0, 0, 0, 9));
    Kit.due("softer", x.softer(0), 1);
    Kit.due("worth", x.worth(0), -9);
  }

  static void promise04_aStreetIs1To8InBoth() {
    int[] sides = {1, 8};
    for (int columns : sides) {
      for (int rows : sides) {
        VintageJams x = good("street " + columns + " by " + rows + ";", 0);
        Kit.due("COLUMNS", x.about(1), columns);
        Kit.due("ROWS", x.about(2), rows);
        Kit.due("the last CELL", x.lines(columns * rows - 1), 0);
        Kit.due("beyond", x.lines(columns * rows), -1);
      }
    }
  }

  static void promise04_aCarIsAtTheFirstAndTheLastCell() {
    VintageJams x = good("street 3 by 5;" + Kit.car(0, 0, 0, 0, 0) + Kit.car(1, 2, 4, 0, 0), 2);
    Kit.due("the first", x.car(0, 0), 0);
    Kit.due("the last", x.car(1, 0), 14);
  }

  static void promise04_headsAreFrom0To3() {
    for (int heading = 0; heading <= 3; heading++) {
      Kit.due("heading", good(Kit.car(0, 0, 0, heading, 0), 1).car(0, 1), heading);
    }
  }

  static void promise04_hootsAreFrom0To99() {
    Kit.due("HOOT", good(Kit.car(0, 0, 0, 0, 0), 1).car(0, 2), 0);
    Kit.due("HOOT", good(Kit.car(0, 0, 0, 0, 99), 1).car(0, 2), 99);
  }

  static void promise04_bodiesAreFrom0To9And1IfNotTold() {
    Kit.due("BODY", good(CAR + " body 0;", 1).car(0, 3), 0);
    Kit.due("BODY", good(CAR + " body 9;", 1).car(0, 3), 9);
    Kit.due("BODY", good(CAR + ";", 1).car(0, 3), 1);
    // not that of the CAR before
    Kit.due("BODY", good(CAR + " body 9;" + Kit.car(1, 1, 0, 0, 0), 2).car(1, 3), 1);
  }

  static void promise04_breaksAreFrom0To100And0IfNotTold() {
    Kit.due("breaks", good("breaks 0;", 0).about(13), 0);
    Kit.due("breaks", good("breaks 100;", 0).about(13), 100);
    Kit.due("breaks", good("draw 5;", 0).about(13), 0);
  }

  static void promise04_drawsAreFrom0To999And0IfNotTold() {
    Kit.due("draw", good("draw 0;", 0).about(5), 0);
    Kit.due("draw", good("draw 999;", 0).about(5), 999);
    Kit.due("draw", good("breaks 5;", 0).about(5), 0);
  }

  static void promise04_softensIs1AndWorthTheDefaultIfNotTold() {
    VintageJams x = Kit.told(Kit.car(0, 0, 0, 0, 50, 3));
    Kit.due("softer", x.softer(0), 1);
    Kit.due("worth", x.worth(0), -50);
    x.year();
    Kit.due("worth", x.worth(0), 3 - 49);
  }

  static void promise04_aNumberHas1To4Digits() {
    Kit.due("1", good("draw 7;", 0).about(5), 7);
    Kit.due("4", good("draw 0007;", 0).about(5), 7);
    Kit.due("4", Kit.told("worth 9999;" + CAR + ";").worth(0), 9999);
    fault("draw 00007;", 1, 5);
    fault("worth 10000;", 1, 6);
  }

  static void promise04_aNameHas1To8Letters() {
    good("car z at 0 0 heads 0 hoots 0;", 1);
    good("car abcdefgh at 0 0 heads 0 hoots 0;", 1);
    good("car zzzzzzzz at 0 0 heads 0 hoots 0;", 1);
    fault("car abcdefghi at 0 0 heads 0 hoots 0;", 1, 4);
    fault("car zzzzzzzzz at 0 0 heads 0 hoots 0;", 1, 4);
  }

  static void promise04_namesDifferInTheFirstOrTheLastLetter() {
    String behind = " at 1 0 heads 0 hoots 0;";
    good("car abcdefgh at 0 0 heads 0 hoots 0;car abcdefgi" + behind, 2);
    good("car abcdefgh at 0 0 heads 0 hoots 0;car bbcdefgh" + behind, 2);
    good("car abcdefgh at 0 0 heads 0 hoots 0;car abcdefg" + behind, 2);
    good("car a at 0 0 heads 0 hoots 0;car aa" + behind, 2);
    fault("car abcdefgh at 0 0 heads 0 hoots 0;car abcdefgh" + behind, 3, 40);
  }

  static void promise04_namesOfLikeLettersDiffer() {
    String behind = " at 1 0 heads 0 hoots 0;";
    String[][] pairs = {{"ab", "ba"}, {"b", "bb"}, {"z", "zz"}, {"az", "ba"}, {"abc", "cab"}, {"aaaaaaaa", "aaaaaaa"}};
    for (String[] pair : pairs) {
      good("car " + pair[0] + " at 0 0 heads 0 hoots 0;car " + pair[1] + behind, 2);
    }
  }

  static void promise04_blanksPartOrNot() {
    VintageJams x = good("street8 by 8;car\na\nat\n7\n7 heads1 hoots9 body 2\n;worth(hoot)*2;breaks9;draw9;", 1);
    Kit.due("CELL", x.car(0, 0), 63);
    Kit.due("worth", x.worth(0), 18);
    good("  street  4\nby 4 ; ", 0);
  }

  static void promise04_eachTokenIsAsLongAsCanBe() {
    fault("carb at 0 0 heads 0 hoots 0;", 2, 0);
    fault("worth hootor 1;", 2, 6);
    fault("draw 1 2;", 2, 7);
    Kit.due("12 is one N", good("draw 12;", 0).about(5), 12);
  }

  static void promise04_eachSortOfLineMayStandAlone() {
    good("street 6 by 6;", 0);
    good(CAR + ";", 1);
    good("softens 1;", 0);
    good("worth 1;", 0);
    good("breaks 1;", 0);
    good("draw 1;", 0);
  }

  static void promise04_linesButStreetComeInAnyOrder() {
    good("street 2 by 1;draw 1;breaks 1;worth 1;softens 1;" + CAR + ";", 1);
    good(CAR + ";softens 1;worth 1;breaks 1;draw 1;" + Kit.car(1, 1, 0, 0, 0), 2);
  }

  static void promise04_30UnitsInOneAnd60InAll() {
    VintageJams x = good("worth " + THIRTY + ";softens " + THIRTY + ";" + CAR + ";", 1);
    Kit.due("units", x.about(11), 60);
    Kit.due("all of them count", x.worth(0), 30);
  }

  static void promise04_bracketsAreUnitsToo() {
    Kit.due("units", good("worth (1);", 0).about(11), 2);
    Kit.due("units", good("worth 1" + Kit.repeat("+1", 27) + "+(1);", 0).about(11), 30);
    fault("worth 1" + Kit.repeat("+1", 28) + "+(1);", 2, 6 + 59);
  }

  static void promise04_within6OthersAtMost() {
    good("worth " + Kit.repeat("(", 7) + "1" + Kit.repeat(")", 7) + ";", 0);
    good("worth " + Kit.repeat("not ", 7) + "1;", 0);
    good("worth " + Kit.repeat("not(", 3) + "(1)" + Kit.repeat(")", 3) + ";", 0);
    // one behind the other is not within one another
    good("worth (1)+(1)+(1)+(1)+(1)+(1)+(1)+(1);", 0);
    good("worth not 1 or not 1 or not 1 or not 1 or not 1 or not 1 or not 1 or not 1;", 0);
  }

  // ---- 5: fault

  static void promise05_at0And1AheadOfAnyJam() {
    VintageJams x = new VintageJams();
    Kit.due("fault(0)", x.fault(0), 0);
    Kit.due("fault(1)", x.fault(1), -1);
  }

  static void promise05_anotherWhatIsNone() {
    VintageJams x = new VintageJams();
    int[] wrong = {-1, 2, Kit.LEAST, Kit.MOST};
    for (int what : wrong) {
      Kit.due("fault(" + what + ")", x.fault(what), -1);
    }
    Kit.tell(x, "draw 1000;");
    for (int what : wrong) {
      Kit.due("behind a FAULT: fault(" + what + ")", x.fault(what), -1);
    }
  }

  static void promise05_itIsOfTheLatestJam() {
    VintageJams x = new VintageJams();
    Kit.tell(x, "draw 1000;");
    Kit.due("fault(0)", x.fault(0), 4);
    Kit.due("fault(1)", x.fault(1), 5);
    Kit.feed(x, "?");
    x.year();
    x.undo();
    Kit.due("nothing else changes it", x.fault(0), 4);
    Kit.due("nothing else changes it", x.fault(1), 5);
    x.jam();
    Kit.due("another FAULT", x.fault(0), 1);
    Kit.due("another place", x.fault(1), 0);
    x.jam();
    Kit.due("none", x.fault(0), 0);
    Kit.due("none", x.fault(1), -1);
  }

  static void promise05_placesAreFrom0ToTheTextsLength() {
    fault("?", 1, 0);
    fault(";", 2, 0);
    fault("draw", 2, 4);
    fault("draw ", 2, 5);
    fault("draw 7" + Kit.repeat(" ", 1594), 2, 1600);
    fault(Kit.repeat(" ", 1599) + "?", 1, 1599);
    fault(Kit.repeat(" ", 1596) + "draw", 2, 1600);
  }

  static void promise05_everyByteThatIsNoToken() {
    String tokens = ";()<>=+-*/%0123456789abcdefghijklmnopqrstuvwxyz";
    for (int sign = 0; sign < 256; sign++) {
      if (sign == 32 || sign == 10) {
        good("draw 1;" + (char) sign, 0);
      } else {
        fault("draw 1;" + (char) sign, tokens.indexOf(sign) >= 0 ? 2 : 1, 7);
      }
    }
  }

  static void promise05_aLetterDirectlyBehindANumberIsNoToken() {
    fault("street 4by 4;", 1, 7);
    fault("draw 1z;", 1, 5);
    fault("draw 1a;", 1, 5);
    fault("worth 1or 2;", 1, 6);
    fault("worth (1)or 2+9999and 1;", 1, 14);
    good("worth (1)or 2;", 0);
  }

  static void promise05_wordsOfTheGrammarAreNoNames() {
    for (String word : WORDS) {
      fault("car " + word + " at 0 0 heads 0 hoots 0;", 2, 4);
      // one letter more, one less: a NAME, if it is no other such word
      String less = word.substring(0, word.length() - 1);
      if (!word.equals("hoots")) {
        good("car " + less + " at 0 0 heads 0 hoots 0;", 1);
      }
      if (!word.equals("hoot")) {
        good("car " + word + "s at 0 0 heads 0 hoots 0;", 1);
      }
      // another first letter, another last one
      good("car x" + word.substring(1) + " at 0 0 heads 0 hoots 0;", 1);
      good("car " + less + "x at 0 0 heads 0 hoots 0;", 1);
    }
  }

  static void promise05_whatIsNotInTheGrammarsPlace() {
    String car = "car a at 0 0 heads 0 hoots 0 body 0;";
    int[] places = {4, 6, 9, 11, 13, 19, 21, 27, 34, 35};
    for (int place : places) {
      fault(car.substring(0, place), 2, place);
      faultBehind(car.substring(0, place), ")", 2);
      faultBehind(car.substring(0, place), "?", 1);
    }
    String street = "street 4 by 4;";
    int[] streetPlaces = {7, 9, 12, 13};
    for (int place : streetPlaces) {
      fault(street.substring(0, place), 2, place);
      faultBehind(street.substring(0, place), ")", 2);
    }
    String[] others = {"draw ", "breaks ", "softens ", "worth "};
    for (String other : others) {
      fault(other, 2, other.length());
      faultBehind(other, ";", 2);
      faultBehind(other + "1", ")", 2);
      fault(other + "1", 2, other.length() + 1);
    }
  }

  static void promise05_aFormulaThatEndsTooSoon() {
    String[] parts = {"", "1 + ", "1 * ", "1 < ", "1 and ", "1 or ", "not ", "(", "(1 + ", "(1) - "};
    for (String part : parts) {
      faultBehind("worth " + part, ";", 2);
      faultBehind("worth (" + part, ");", 2);
      fault("worth " + part, 2, 6 + part.length());
    }
    faultBehind("worth (1", ";", 2);
    faultBehind("worth 1", ");", 2);
    faultBehind("worth 1 < 2 ", "< 3;", 2);
    faultBehind("worth 1 + ", "not 1;", 2);
    faultBehind("worth ", "-1;", 2);
  }

  static void promise05_wordsThatBeginNoLine() {
    for (String word : WORDS) {
      if (!List.of("street", "car", "softens", "worth", "breaks", "draw").contains(word)) {
        fault(word + " 1;", 2, 0);
      }
    }
    fault("name 1;", 2, 0);
    fault("1;", 2, 0);
  }

  static void promise05_aNinthCarAtItsFirstWord() {
    String eight = Kit.eightInARow(0).replace("8 by 1", "8 by 2");
    good(eight, 8);
    faultBehind(eight, Kit.car(8, 0, 1, 0, 0), 2);
    faultBehind(eight + "\n", "car ?", 2);
    good(eight + "draw 1;", 8);
  }

  static void promise05_aSecondTimeAtItsFirstWord() {
    faultBehind("softens 1;", "softens 1;", 2);
    faultBehind("worth 1;", "worth 1;", 2);
    faultBehind("breaks 0;", "breaks 0;", 2);
    faultBehind("draw 0;", "draw 0;", 2);
    faultBehind("street 6 by 6;", "street 6 by 6;", 2);
    // others between, and what is wrong further on in the same line
    faultBehind("worth 1;softens 1;breaks 1;draw 1;" + CAR + "; ", "worth ?", 2);
    faultBehind("draw 1;softens 1; ", "draw 1000;", 2);
  }

  static void promise05_aStreetBehindAnotherLineAtItsFirstWord() {
    String[] lines = {CAR + ";", "softens 1;", "worth 1;", "breaks 1;", "draw 1;"};
    for (String line : lines) {
      faultBehind(line, "street 6 by 6;", 2);
      faultBehind(line, "street 9 by ?", 2);
    }
  }

  static void promise05_aUnitTooManyAtItsFirstToken() {
    faultBehind("worth " + THIRTY + "+", "1;", 2);
    faultBehind("worth " + THIRTY + "+", "hoot;", 2);
    faultBehind("worth " + THIRTY + "+", "(1);", 2);
    faultBehind("softens " + THIRTY + " and not ", "1;", 2);
    faultBehind("worth 1" + Kit.repeat("+1", 28) + "+(", "1);", 2);
    faultBehind("worth 1" + Kit.repeat("+1", 27) + "+(1+", "1);", 2);
    // 30 in the first are none the fewer in the second
    faultBehind("worth " + THIRTY + ";softens " + THIRTY + "+", "1;", 2);
    faultBehind("softens " + THIRTY + ";worth " + THIRTY + "+", "1;", 2);
  }

  static void promise05_within7OthersAtTheBracketOrTheNot() {
    faultBehind("worth " + Kit.repeat("(", 7), "(1" + Kit.repeat(")", 8) + ";", 2);
    faultBehind("worth " + Kit.repeat("not ", 7), "not 1;", 2);
    faultBehind("worth " + Kit.repeat("not ", 7), "(1);", 2);
    faultBehind("worth " + Kit.repeat("(", 7), "not 1" + Kit.repeat(")", 7) + ";", 2);
    faultBehind("worth " + Kit.repeat("(not ", 3) + "(", "not 1" + Kit.repeat(")", 4) + ";", 2);
    faultBehind("worth " + Kit.repeat("not(", 3) + "not ", "(1)" + Kit.repeat(")", 3) + ";", 2);
    // the second one behind a first that is deep enough
    faultBehind("worth " + Kit.repeat("(", 7) + "1+", "(1", 2);
    good("worth " + Kit.repeat("(", 7) + "1" + Kit.repeat(")", 6) + "+(1));", 0);
  }

  static void promise05_aNameToldAlreadyAtTheName() {
    faultBehind(CAR + ";car ", "a at 1 1 heads 0 hoots 0;", 3);
    faultBehind(CAR + ";" + Kit.car(1, 1, 0, 0, 0) + "car ", "b at 2 0", 3);
    faultBehind(CAR + ";" + Kit.car(1, 1, 0, 0, 0) + "car ", "a ?", 3);
  }

  static void promise05_aCellToldAlreadyAtItsRow() {
    faultBehind(CAR + ";car b at 0 ", "0 heads 0 hoots 0;", 3);
    faultBehind("street 8 by 8;" + Kit.car(0, 7, 7, 0, 0) + Kit.car(1, 6, 7, 0, 0) + "car c at 7 ", "7 heads 9", 3);
    good("street 3 by 2;" + Kit.car(0, 0, 1, 0, 0) + Kit.car(1, 1, 0, 0, 0), 2);
    // column 3 of row 0 would have the number of column 0 of row 1
    faultBehind("street 3 by 2;" + Kit.car(0, 0, 1, 0, 0) + "car b at ", "3 0 heads 0 hoots 0;", 4);
  }

  static void promise05_streetsThatCantBe() {
    faultBehind("street ", "0 by 1;", 4);
    faultBehind("street ", "9 by 1;", 4);
    faultBehind("street ", "9999 by 1;", 4);
    faultBehind("street 1 by ", "0;", 4);
    faultBehind("street 1 by ", "9;", 4);
    faultBehind("street 1 by ", "9999;", 4);
  }

  static void promise05_cellsThatCantBe() {
    faultBehind("car a at ", "6 0 heads 0 hoots 0;", 4);
    faultBehind("car a at 5 ", "6 heads 0 hoots 0;", 4);
    faultBehind("street 3 by 5;car a at ", "3 0 heads 0 hoots 0;", 4);
    faultBehind("street 3 by 5;car a at 2 ", "5 heads 0 hoots 0;", 4);
    faultBehind("street 1 by 8;car a at ", "1 7 heads 0 hoots 0;", 4);
    faultBehind("street 8 by 1;car a at 7 ", "1 heads 0 hoots 0;", 4);
  }

  static void promise05_otherNumbersThatCantBe() {
    faultBehind("car a at 0 0 heads ", "4 hoots 0;", 4);
    faultBehind("car a at 0 0 heads 0 hoots ", "100;", 4);
    faultBehind(CAR + " body ", "10;", 4);
    faultBehind("breaks ", "101;", 4);
    faultBehind("draw ", "1000;", 4);
  }

  static void promise05_theFirstFaultByItsPlace() {
    fault("draw 1000;draw 1000;?", 4, 5);
    fault("street 9 by 9;", 4, 7);
    fault("car a at 6 6 heads 4 hoots 100 body 10;", 4, 9);
    fault("?draw 1000;", 1, 0);
    fault(CAR + ";car a at 0 0", 3, CAR.length() + 5);
    fault("breaks 101?", 4, 7);
    fault("car a at 0 0 heads 0 hoots 0;draw 1000;street 1 by 1;", 4, 34);
  }

  static void promise05_atOnePlaceTheLeastFault() {
    // no TOKEN, and a number that can't be
    fault("draw 1000a;", 1, 5);
    fault("draw 10000;", 1, 5);
    // no TOKEN where none can stand
    fault("draw 1 12345;", 1, 7);
    // a number that can't be where no number can stand
    fault("draw 1 2000;", 2, 7);
    fault("street 1000a by 1;", 1, 7);
    // no TOKEN where a unit is too many
    fault("worth " + THIRTY + "+12345;", 1, 66);
  }
}
