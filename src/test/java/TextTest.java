/** Promises 1 to 5: a new object, the TAPE, the JAM's text and its FAULTS. */
public final class TextTest {
  public static void main(String[] args) {
    newObject();
    tape();
    jamTakesTheTape();
    tapeBehindFaults();
    goodTexts();
    tokens();
    linesInTheirPlaces();
    numbers();
    toldAlready();
    formulas();
    unitsAndDepth();
    faultsByPlace();
    oneJamBehindAnother();
    Kit.finish();
  }

  private static void fault(String text, int fault, int place) {
    VintageJams x = new VintageJams();
    Kit.due("jam() of '" + text + "'", Kit.tell(x, text), -1);
    Kit.due("fault(0) of '" + text + "'", x.fault(0), fault);
    Kit.due("fault(1) of '" + text + "'", x.fault(1), place);
    Kit.due("about(0) of '" + text + "'", x.about(0), 0);
  }

  private static VintageJams good(String text, int cars) {
    VintageJams x = new VintageJams();
    Kit.due("jam() of '" + text + "'", Kit.tell(x, text), cars);
    Kit.due("fault(0) of '" + text + "'", x.fault(0), 0);
    Kit.due("fault(1) of '" + text + "'", x.fault(1), -1);
    return x;
  }

  private static void newObject() {
    VintageJams x = new VintageJams();
    int[] due = {0, 6, 6, 0, 0, 0, 0, 0, 0, 0, 0, 0, 0, 0};
    for (int what = 0; what < due.length; what++) {
      Kit.due("new: about(" + what + ")", x.about(what), due[what]);
    }
    Kit.due("new: about(14)", x.about(14), -1);
    Kit.due("new: about(-1)", x.about(-1), -1);
    Kit.due("new: fault(0)", x.fault(0), 0);
    Kit.due("new: fault(1)", x.fault(1), -1);
    Kit.due("new: fault(2)", x.fault(2), -1);
    Kit.due("new: fault(-1)", x.fault(-1), -1);
    Kit.due("new: undo", x.undo(), false);
    Kit.due("new: redo", x.redo(), false);
    Kit.due("new: reach(35)", x.reach(35), 36);
    Kit.due("new: reach(36)", x.reach(36), -1);
    Kit.due("new: jam()", x.jam(), 0);
  }

  private static void tape() {
    VintageJams x = new VintageJams();
    Kit.due("end(0)", x.end(0), 0);
    Kit.due("end(1)", x.end(1), -1);
    Kit.due("end(-1)", x.end(-1), -1);
    for (int i = 1; i <= 80; i++) {
      Kit.due("feed " + i, x.feed(0x20202020, 0x20202020, 0x20202020, 0x20202020, 0x20202020), 20 * i);
    }
    Kit.due("feed 81", x.feed(1, 1, 1, 1, 1), -1);
    Kit.due("about(10)", x.about(10), 1600);
    Kit.due("end(1601)", x.end(1601), -1);
    Kit.due("end(1600)", x.end(1600), 1600);
    Kit.due("end(1581)", x.end(1581), 1581);
    Kit.due("feed beyond 1600", x.feed(1, 1, 1, 1, 1), -1);
    Kit.due("about(10)", x.about(10), 1581);
    Kit.due("end(-1)", x.end(-1), -1);
    Kit.due("about(10)", x.about(10), 1581);
    Kit.due("end(1580)", x.end(1580), 1580);
    Kit.due("feed to 1600", x.feed(0x20202020, 0x20202020, 0x20202020, 0x20202020, 0x2020203b), 1600);
    Kit.due("jam()", x.jam(), -1);
    Kit.due("fault(0)", x.fault(0), 2);
    Kit.due("fault(1)", x.fault(1), 1599);
    highestByteFirst();
    allThatATextCanHold();
  }

  private static void highestByteFirst() {
    VintageJams x = new VintageJams();
    // "draw" "  12" "3;  " and a byte with the sign's bit at the end
    Kit.due("feed", x.feed(0x64726177, 0x20203132, 0x333b2020, 0x0a0a0a0a, 0x202020e9), 20);
    Kit.due("jam()", x.jam(), -1);
    Kit.due("fault(0)", x.fault(0), 1);
    Kit.due("fault(1)", x.fault(1), 19);
    Kit.due("feed", x.feed(0x64726177, 0x20203132, 0x333b2020, 0x0a0a0a0a, 0x202020e9), 20);
    Kit.due("end(19)", x.end(19), 19);
    Kit.due("jam()", x.jam(), 0);
    Kit.due("about(5)", x.about(5), 123);
    Kit.due("feed", x.feed(-1, -1, -1, -1, -1), 20);
    Kit.due("jam()", x.jam(), -1);
    Kit.due("fault(0)", x.fault(0), 1);
    Kit.due("fault(1)", x.fault(1), 0);
  }

  private static void allThatATextCanHold() {
    VintageJams x = good("draw 7;" + Kit.repeat(" ", 1593), 0);
    Kit.due("about(5)", x.about(5), 7);
    String all = "worth 1" + Kit.repeat(";", 1593);
    fault(all, 2, 8);
    // 1,600 TOKENS: the last one is the one that can't stand there
    VintageJams y = new VintageJams();
    Kit.due("1600 signs", Kit.tell(y, Kit.repeat("(", 1600)), -1);
    Kit.due("fault(1)", y.fault(1), 0);
  }

  private static void jamTakesTheTape() {
    VintageJams x = Kit.told("street 4 by 3;car a at 1 1 heads 1 hoots 9;car b at 3 1 heads 2 hoots 5;draw 9;breaks 50;");
    Kit.due("about(10)", x.about(10), 0);
    x.year();
    x.year();
    x.undo();
    x.heard(0, 0, true);
    x.later(5);
    x.image(0);
    x.order();
    x.tow(0);
    x.year();
    x.undo();
    Kit.feed(x, "street 2 by 2; car 7");
    Kit.due("jam() with a FAULT", x.jam(), -1);
    Kit.due("fault(0)", x.fault(0), 2);
    Kit.due("fault(1)", x.fault(1), 19);
    Kit.due("TAPE behind a FAULT", x.about(10), 0);
    Kit.due("stays: COLUMNS", x.about(1), 4);
    Kit.due("stays: ROWS", x.about(2), 3);
    Kit.due("stays: CARS", x.about(0), 2);
    Kit.due("stays: IN", x.about(3), 2);
    Kit.due("stays: year", x.about(4), 1);
    Kit.due("stays: ACTS", x.about(6), 2);
    Kit.due("stays: ACTS taken back", x.about(7), 1);
    Kit.due("stays: HEARD", x.about(8), 1);
    Kit.due("stays: TIME", x.about(9), 5);
    Kit.due("stays: what lies", x.about(12), 2);
    Kit.due("stays: breaks", x.about(13), 50);
    Kit.due("stays: BOX", x.back(0), 1);
    x.tow(0);
    Kit.feed(x, "street 2 by 2;");
    Kit.due("jam()", x.jam(), 0);
    int[] due = {0, 2, 2, 0, 0, 0, 0, 0, 0, 5, 0, 0, 0, 0};
    for (int what = 0; what < due.length; what++) {
      Kit.due("jam anew: about(" + what + ")", x.about(what), due[what]);
    }
    Kit.due("jam anew: back(0)", x.back(0), -1);
    Kit.due("jam anew: undo", x.undo(), false);
    Kit.due("jam anew: redo", x.redo(), false);
    Kit.due("jam anew: lies(0)", x.lies(0), -1);
    Kit.due("jam anew: fault(0)", x.fault(0), 0);
    Kit.due("jam anew: fault(1)", x.fault(1), -1);
    Kit.due("jam of an empty TAPE", x.jam(), 0);
    Kit.due("6 by 6 again", x.about(1) * 10 + x.about(2), 66);
  }

  /** One FAULT of each sort, and a full TAPE: nothing is left on it, and FAULTS are told till the next jam(). */
  private static void tapeBehindFaults() {
    String[] texts = {
        "draw 7; ?", "draw 7; draw 8;", "car a at 0 0 heads 0 hoots 0; car a", "draw 1000;", "draw 7",
        "draw 7;" + Kit.repeat(";", 1593)};
    int[] faults = {1, 2, 3, 4, 2, 2};
    int[] places = {8, 8, 34, 5, 6, 7};
    VintageJams x = Kit.told("street 3 by 2;car b at 1 1 heads 1 hoots 9;draw 5;");
    for (int i = 0; i < texts.length; i++) {
      String where = "behind FAULT " + faults[i] + " at " + places[i] + ": ";
      Kit.due(where + "jam()", Kit.tell(x, texts[i]), -1);
      Kit.due(where + "about(10)", x.about(10), 0);
      Kit.due(where + "end(1)", x.end(1), -1);
      Kit.due(where + "end(0)", x.end(0), 0);
      Kit.due(where + "fault(0)", x.fault(0), faults[i]);
      Kit.due(where + "fault(1)", x.fault(1), places[i]);
      Kit.due(where + "CARS", x.about(0), 1);
      Kit.due(where + "SEED", x.about(5), 5);
      Kit.due(where + "feed", x.feed(0x64726177, 0x20393b20, 0x20202020, 0x20202020, 0x20202020), 20);
      x.end(0);
    }
    Kit.due("jam() behind FAULTS", Kit.tell(x, "draw 9;"), 0);
    Kit.due("its SEED", x.about(5), 9);
    Kit.due("jam() with a FAULT", Kit.tell(x, "street 1 by"), -1);
    Kit.due("the next jam() is that of an empty TAPE", x.jam(), 0);
    Kit.due("its FAULT", x.fault(0), 0);
    Kit.due("its COLUMNS", x.about(1), 6);
  }

  private static void goodTexts() {
    good("", 0);
    good(" \n ", 0);
    VintageJams x = good("street 8 by 1;", 0);
    Kit.due("COLUMNS", x.about(1), 8);
    Kit.due("ROWS", x.about(2), 1);
    x = good("street 1 by 8;", 0);
    Kit.due("COLUMNS", x.about(1), 1);
    Kit.due("ROWS", x.about(2), 8);
    x = good("car a at 5 4 heads 3 hoots 99;car e at 0 0 heads 0 hoots 0 body 0;", 2);
    Kit.due("CELL", x.car(0, 0), 29);
    Kit.due("heading", x.car(0, 1), 3);
    Kit.due("HOOT", x.car(0, 2), 99);
    Kit.due("BODY", x.car(0, 3), 1);
    Kit.due("BODY", x.car(1, 3), 0);
    Kit.due("CELL", x.car(1, 0), 0);
    x = good("car\nabcdefgh at0005 4\nheads 03 hoots 0099 body 0009\n;draw 0999;breaks 0100;", 1);
    Kit.due("CELL", x.car(0, 0), 29);
    Kit.due("BODY", x.car(0, 3), 9);
    Kit.due("draw", x.about(5), 999);
    Kit.due("breaks", x.about(13), 100);
    x = good("worth 1;draw 0;breaks 0;softens 1;car a at 0 0 heads 0 hoots 0;", 1);
    Kit.due("units", x.about(11), 2);
    good(eightCars(), 8);
    good("street 1 by 1;car line at 0 0 heads 0 hoots 0;", 1);
    good("car streets at 0 0 heads 0 hoots 0;car ca at 1 0 heads 0 hoots 0;car ors at 2 0 heads 0 hoots 0;", 3);
  }

  private static String eightCars() {
    StringBuilder text = new StringBuilder();
    for (int i = 0; i < 8; i++) {
      text.append("car ").append((char) ('a' + i)).append(" at ").append(i % 6).append(' ').append(i / 6);
      text.append(" heads 0 hoots 0;");
    }
    return text.toString();
  }

  private static void tokens() {
    fault("Car", 1, 0);
    fault("draw 1 ,", 1, 7);
    fault("draw\t1;", 1, 4);
    fault("draw 1;" + (char) 0, 1, 7);
    fault("draw 1;" + (char) 233, 1, 7);
    fault("draw 1;" + (char) 13, 1, 7);
    fault("draw 1;{", 1, 7);
    fault("draw 1;`", 1, 7);
    fault("draw 1:", 1, 6);
    // more letters than a word has, more digits than an N has, a letter directly behind an N
    fault("car abcdefghi at 0 0 heads 0 hoots 0;", 1, 4);
    fault("draw 12345;", 1, 5);
    fault("street 4by 4;", 1, 7);
    fault("street8by1;", 1, 6);
    fault("worth 1or 2;", 1, 6);
    fault("street4 by 44a;", 1, 11);
    // blanks part them or not, but each is as long as can be
    good("street4 by 4;car a at1 1 heads0 hoots0 body3;worth(1)or(2)and not(hoot);", 1);
    fault("carb at 0 0 heads 0 hoots 0;", 2, 0);
    fault("worth 1 2;", 2, 8);
    fault("worth hootor 1;", 2, 6);
    fault("worth 1 orhoot;", 2, 8);
  }

  private static void linesInTheirPlaces() {
    fault(";", 2, 0);
    fault("draw 1;;", 2, 7);
    fault("car", 2, 3);
    fault("car  ", 2, 5);
    fault("draw 1", 2, 6);
    fault("draw 1 \n", 2, 8);
    fault("draw;", 2, 4);
    fault("draw 1 2;", 2, 7);
    fault("breaks hoot;", 2, 7);
    fault("bus", 2, 0);
    fault("7", 2, 0);
    fault("hoot", 2, 0);
    fault("by", 2, 0);
    fault("street 4 4;", 2, 9);
    fault("street 4 by by;", 2, 12);
    fault("street 4 by 4 car", 2, 14);
    fault("street 4 by 4;street 4 by 4;", 2, 14);
    fault("draw 1;street 4 by 4;", 2, 7);
    fault("car a at 0 0 heads 0 hoots 0;street 4 by 4;", 2, 29);
    fault("softens 1;street 4 by 4;", 2, 10);
    fault("worth 1;street 4 by 4;", 2, 8);
    fault("breaks 1;street 4 by 4;", 2, 9);
    fault("draw 1;draw 1;", 2, 7);
    fault("breaks 1;draw 1;breaks x", 2, 16);
    fault("softens 1;worth 1;softens 1;", 2, 18);
    fault("worth 1;softens 1;worth 1;", 2, 18);
    String car = "car a at 0 0 heads 0 hoots 0 body 0;";
    int[] places = {4, 6, 9, 11, 13, 19, 21, 27, 34};
    for (int place : places) {
      fault(car.substring(0, place) + ")", 2, place);
      fault(car.substring(0, place), 2, place);
    }
    fault("car a at 0 0 heads 0 hoots 0 body;", 2, 33);
    fault("car a at 0 0 heads 0 hoots 0 (", 2, 29);
    fault("car a at 0 0 heads 0 hoots 0 body 1 body 1;", 2, 36);
    fault("car a at 0 0 hoots 0 heads 0;", 2, 13);
    String[] words = {"street", "by", "car", "at", "heads", "hoots", "body", "softens", "worth", "breaks", "draw",
        "or", "and", "not", "hoot", "bodied", "many", "lane", "year"};
    for (String word : words) {
      fault("car " + word + " at 0 0 heads 0 hoots 0;", 2, 4);
    }
    String eight = eightCars();
    fault(eight + "car z at 5 5 heads 0 hoots 0;", 2, eight.length());
    fault(eight + "  car 7", 2, eight.length() + 2);
  }

  private static void numbers() {
    fault("street 0 by 1;", 4, 7);
    fault("street 9 by 1;", 4, 7);
    fault("street 1 by 0;", 4, 12);
    fault("street 1 by 9;", 4, 12);
    fault("car a at 6 0 heads 0 hoots 0;", 4, 9);
    fault("car a at 0 6 heads 0 hoots 0;", 4, 11);
    fault("street 3 by 5;car a at 3 0 heads 0 hoots 0;", 4, 23);
    fault("street 3 by 5;car a at 2 5 heads 0 hoots 0;", 4, 25);
    good("street 3 by 5;car a at 2 4 heads 0 hoots 0;", 1);
    fault("car a at 0 0 heads 4 hoots 0;", 4, 19);
    fault("car a at 0 0 heads 0 hoots 100;", 4, 27);
    fault("car a at 0 0 heads 0 hoots 0 body 10;", 4, 34);
    fault("breaks 101;", 4, 7);
    fault("draw 1000;", 4, 5);
    good("worth 9999;softens 0000;", 0);
  }

  private static void toldAlready() {
    String car = "car a at 1 2 heads 0 hoots 0;";
    fault(car + "car a at 1 3 heads 0 hoots 0;", 3, 33);
    fault(car + "car b at 1 2 heads 0 hoots 0;", 3, 40);
    fault(car + "car b at 1 3 heads 0 hoots 0;car b", 3, 62);
    fault(car + "car ab at 0 0 heads 0 hoots 0;car aa at 3 0 heads 0 hoots 0;car ab at 4 0 heads 0 hoots 0;", 3, 93);
    good(car + "car aa at 2 1 heads 0 hoots 0;", 2);
    // a CELL that can't be is not the CELL of another CAR, whatever its number would be
    fault("street 2 by 4;car a at 1 1 heads 0 hoots 0;car b at 3 0", 4, 52);
    // a NAME of a JAM told earlier does not count
    VintageJams x = Kit.told(car);
    Kit.due("the same text anew", Kit.tell(x, car), 1);
  }

  private static void formulas() {
    fault("worth;", 2, 5);
    fault("worth 1 + ;", 2, 10);
    fault("worth + 1;", 2, 6);
    fault("worth -1;", 2, 6);
    fault("worth 1 < 2 < 3;", 2, 12);
    fault("worth 1 = 2 > 3;", 2, 12);
    fault("worth 1 < not 2;", 2, 10);
    fault("worth 1 + not 2;", 2, 10);
    fault("worth not;", 2, 9);
    fault("worth (1;", 2, 8);
    fault("worth 1);", 2, 7);
    fault("worth ();", 2, 7);
    fault("worth (1", 2, 8);
    fault("worth bus;", 2, 6);
    fault("worth body;", 2, 6);
    fault("worth hoots;", 2, 6);
    fault("worth 1 or or 1;", 2, 11);
    fault("worth 1 >= 1;", 2, 9);
    fault("worth 1 and;", 2, 11);
    good("worth not not 1 < 2 and not (1 < 2) or (1 < 2) < 3;", 0);
    good("softens (hoot + bodied) * many / lane % year - 7 > 8;", 0);
  }

  private static void unitsAndDepth() {
    String thirty = "1" + Kit.repeat("+1", 29);
    VintageJams x = good("worth " + thirty + ";softens " + thirty + ";", 0);
    Kit.due("60 units", x.about(11), 60);
    fault("worth " + thirty + "+1;", 2, 6 + 60);
    fault("worth " + thirty + "+hoot;", 2, 6 + 60);
    fault("worth " + thirty + "+(1);", 2, 6 + 60);
    fault("worth " + thirty + ";softens " + thirty + "+1;", 2, 6 + 60 + 8 + 60);
    // a unit ( e ) is a unit as well as what it holds
    x = good("worth (1)+(2);", 0);
    Kit.due("units of brackets", x.about(11), 4);
    x = good("worth 1" + Kit.repeat("+1", 27) + "+(1);", 0);
    Kit.due("30 units with brackets", x.about(11), 30);
    fault("worth 1" + Kit.repeat("+1", 28) + "+(1);", 2, 6 + 59);
    fault("worth 1" + Kit.repeat("+1", 27) + "+(1+1);", 2, 6 + 55 + 4);
    x = good("worth not not 1;", 0);
    Kit.due("nots are no units", x.about(11), 1);
    good("worth " + Kit.repeat("(", 7) + "1" + Kit.repeat(")", 7) + ";", 0);
    fault("worth " + Kit.repeat("(", 8) + "1" + Kit.repeat(")", 8) + ";", 2, 6 + 7);
    good("worth " + Kit.repeat("not ", 7) + "1;", 0);
    fault("worth " + Kit.repeat("not ", 8) + "1;", 2, 6 + 28);
    good("worth " + Kit.repeat("not(", 3) + "not 1" + Kit.repeat(")", 3) + ";", 0);
    fault("worth " + Kit.repeat("not(", 3) + "not(1)" + Kit.repeat(")", 3) + ";", 2, 6 + 15);
    fault("worth (" + Kit.repeat("not(", 3) + "not 1" + Kit.repeat(")", 4) + ";", 2, 6 + 13);
    good("worth not 1 and not 1 and not 1 and not 1 and not 1 and not 1 and not 1 and not 1;", 0);
    good("worth (1)+(1)+(1)+(1)+(1)+(1)+(1)+(1)+(1);", 0);
    // the longest formula there can be: 7 nots around each of 30 units
    String sevenNots = Kit.repeat("not ", 7) + "1";
    x = good("worth " + sevenNots + Kit.repeat(" and " + sevenNots, 29) + ";car a at 0 0 heads 0 hoots 0;", 1);
    Kit.due("not 1, all of them", x.worth(0), 0);
    x = good("worth " + sevenNots + Kit.repeat(" and " + sevenNots, 28) + " or 5;car a at 0 0 heads 0 hoots 0;", 1);
    Kit.due("the last unit counts", x.worth(0), 1);
  }

  private static void faultsByPlace() {
    // what comes first by its place, whatever comes behind it
    fault("street 9 by 9;", 4, 7);
    fault("street 9 by ?", 4, 7);
    fault("street ? by 9;", 1, 7);
    fault("car a at 0 0 heads 9 hoots 100; draw 1; draw 1;", 4, 19);
    fault("draw 1000 ?", 4, 5);
    fault("draw 1 ? ;", 1, 7);
    fault("worth 1 + ?;", 1, 10);
    fault("worth 1 ?", 1, 8);
    fault("car ?", 1, 4);
    fault("car a at 0 0 heads 0 hoots 0 ?", 1, 29);
    fault("worth " + "1" + Kit.repeat("+1", 29) + "+?;", 1, 66);
  }

  private static void oneJamBehindAnother() {
    VintageJams x = new VintageJams();
    String car = "car a at 0 0 heads 0 hoots 50 body 2;";
    Kit.due("jam", Kit.tell(x, "worth 1 + 2 + 3;softens 5 * 2;breaks 3;draw 4;" + car), 1);
    Kit.due("worth", x.worth(0), 6);
    Kit.due("softer", x.softer(0), 10);
    Kit.due("units", x.about(11), 5);
    Kit.due("jam", Kit.tell(x, "softens 7;worth 4 - 1;" + car), 1);
    Kit.due("worth", x.worth(0), 3);
    Kit.due("softer", x.softer(0), 7);
    Kit.due("units", x.about(11), 3);
    Kit.due("breaks", x.about(13), 0);
    Kit.due("draw", x.about(5), 0);
    // what a text with a FAULT told of is not told
    Kit.due("jam", Kit.tell(x, "worth 77;softens 66;breaks 9;car z at 1 1 heads 0 hoots 0;?"), -1);
    x.end(0);
    Kit.due("worth", x.worth(0), 3);
    Kit.due("softer", x.softer(0), 7);
    Kit.due("jam", Kit.tell(x, car), 1);
    Kit.due("worth by default", x.worth(0), -50);
    Kit.due("softer by default", x.softer(0), 1);
    Kit.due("units", x.about(11), 0);
  }
}
