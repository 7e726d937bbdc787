import java.util.ArrayList;
import java.util.List;
import java.util.Random;
import java.util.regex.Matcher;
import java.util.regex.Pattern;

/** Promises 4 and 5 on many drawn texts, most of them spoiled in a few places, against the FaultModel. */
public final class FaultTest {
  private static final String[] TOKENS = {"street", "by", "car", "at", "heads", "hoots", "body", "softens", "worth",
      "breaks", "draw", "or", "and", "not", "hoot", "bodied", "many", "lane", "year", ";", "(", ")", "<", ">", "=", "+",
      "-", "*", "/", "%", "0", "1", "5", "8", "9", "99", "100", "101", "999", "1000", "9999", "0003", "12345", "a", "zz",
      "names", "abcdefgh", "abcdefghi", "A", ".", "\t", "\u00e9", "\u0000", "!", "3x", "x3", " ", "\n", "not not not",
      "((", "))", "street 3 by 3;", "car b at 0 0 heads 1 hoots 2;", "car new at 5 5 heads 0 hoots 0 body 9;",
      "softens 2;", "worth hoot;", "breaks 7;", "draw 8;"};
  private static final Pattern PIECE = Pattern.compile("(?s)[a-z]+|[0-9]+|.");
  private static final int[] seen = new int[5];

  public static void main(String[] args) {
    for (int round = 0; round < 12000; round++) {
      Random r = new Random(round);
      int kind = r.nextInt(6);
      hold(kind == 0 ? crowded(r) : kind == 1 ? formulas(r, 3, 5, 45) : kind == 2 ? formulas(r, 12, 20, 80) : spoiled(r));
    }
    for (int fault = 0; fault < seen.length; fault++) {
      Kit.due("texts with the FAULT " + fault + " are many: " + seen[fault], seen[fault] > 100, true);
    }
    Kit.finish();
  }

  private static void hold(String text) {
    if (text.length() > 1600) {
      return;
    }
    FaultModel m = new FaultModel(text);
    VintageJams x = new VintageJams();
    String of = " of '" + text + "'";
    Kit.due("jam()" + of, Kit.tell(x, text), m.fault == 0 ? m.cars.size() : -1);
    Kit.due("fault(0)" + of, x.fault(0), m.fault);
    Kit.due("fault(1)" + of, x.fault(1), m.place);
    seen[m.fault]++;
    if (m.fault == 0) {
      holdTold(x, m, of);
    } else {
      Kit.due("about(0)" + of, x.about(0), 0);
      Kit.due("about(11)" + of, x.about(11), 0);
    }
  }

  private static void holdTold(VintageJams x, FaultModel m, String of) {
    Kit.due("COLUMNS" + of, x.about(1), m.columns);
    Kit.due("ROWS" + of, x.about(2), m.rows);
    Kit.due("SEED" + of, x.about(5), m.draw);
    Kit.due("units" + of, x.about(11), m.units);
    Kit.due("breaks" + of, x.about(13), m.breaks);
    for (int car = 0; car < m.cars.size(); car++) {
      for (int what = 0; what < 4; what++) {
        Kit.due("car(" + car + ", " + what + ")" + of, x.car(car, what), m.cars.get(car)[what]);
      }
    }
  }

  private static String spoiled(Random r) {
    String text = new Model().draw(r, 3 + r.nextInt(6));
    if (text == null || text.isEmpty()) {
      return "";
    }
    if (r.nextInt(4) == 0) {
      text = spoilBytes(text, r);
    }
    List<String> pieces = pieces(text);
    for (int times = r.nextInt(4); times > 0; times--) {
      spoilPieces(pieces, r);
    }
    return String.join("", pieces);
  }

  private static List<String> pieces(String text) {
    List<String> pieces = new ArrayList<>();
    Matcher m = PIECE.matcher(text);
    while (m.find()) {
      pieces.add(m.group());
    }
    return pieces;
  }

  private static String spoilBytes(String text, Random r) {
    StringBuilder bytes = new StringBuilder(text);
    int place = r.nextInt(text.length());
    switch (r.nextInt(3)) {
      case 0:
        bytes.deleteCharAt(place);
        break;
      case 1:
        bytes.setCharAt(place, (char) r.nextInt(256));
        break;
      default:
        bytes.setLength(place);
        break;
    }
    return bytes.toString();
  }

  private static void spoilPieces(List<String> pieces, Random r) {
    if (pieces.isEmpty()) {
      return;
    }
    int place = r.nextInt(pieces.size());
    String token = TOKENS[r.nextInt(TOKENS.length)];
    switch (r.nextInt(5)) {
      case 0:
        pieces.remove(place);
        break;
      case 3:
        tellAgain(pieces, r);
        break;
      case 1:
        pieces.add(place, token);
        break;
      case 2:
        pieces.set(place, token);
        break;
      default:
        pieces.add(place, pieces.get(r.nextInt(pieces.size())));
        break;
    }
  }

  /** One CAR's NAME, or its CELL, for another one. */
  private static void tellAgain(List<String> pieces, Random r) {
    List<Integer> places = new ArrayList<>();
    for (int i = 2; i + 4 < pieces.size(); i++) {
      if (pieces.get(i).equals("at")) {
        places.add(i);
      }
    }
    if (!places.isEmpty()) {
      int from = places.get(r.nextInt(places.size()));
      int to = places.get(r.nextInt(places.size()));
      boolean isName = r.nextBoolean();
      for (int i = isName ? -2 : 2; i <= (isName ? -2 : 4); i += 2) {
        pieces.set(to + i, pieces.get(from + i));
      }
    }
  }

  /** Up to ten CARS, now and then a line of another sort between them. */
  private static String crowded(Random r) {
    StringBuilder text = new StringBuilder(r.nextInt(4) > 0 ? "street 8 by 8;" : "");
    int count = r.nextInt(11);
    for (int i = 0; i < count; i++) {
      text.append(Kit.car(i, r.nextInt(2) + 2 * (i % 3), i / 3, r.nextInt(4), r.nextInt(100), r.nextInt(10)));
      if (r.nextInt(6) == 0) {
        text.append(TOKENS[TOKENS.length - 1 - r.nextInt(7)]);
      }
    }
    return text.toString();
  }

  /** Rows of TOKENS that are mostly formulas: one of so many units is a bracket, one of so many a not. */
  private static String formulas(Random r, int bracket, int not, int longest) {
    StringBuilder text = new StringBuilder();
    for (int line = r.nextInt(2); line < 2; line++) {
      text.append(line == 0 ? "softens " : "worth ");
      int open = 0;
      boolean unitIsDue = true;
      int more = r.nextInt(longest);
      while (more > 0 || unitIsDue) {
        more--;
        if (r.nextInt(2 * longest) == 0) {
          text.append(TOKENS[11 + r.nextInt(30)]).append(' ');
        } else if (!unitIsDue && open > 0 && r.nextInt(4) == 0) {
          text.append(')');
          open--;
        } else if (unitIsDue && more > 0 && r.nextInt(bracket) == 0) {
          text.append("(");
          open++;
        } else if (unitIsDue) {
          boolean isNot = r.nextInt(not) == 0;
          text.append(isNot ? "not " : TOKENS[14 + r.nextInt(5)] + " ");
          unitIsDue = isNot;
        } else {
          text.append(r.nextInt(2) == 0 ? " or " : r.nextInt(2) == 0 ? " and " : TOKENS[22 + r.nextInt(8)]);
          unitIsDue = true;
        }
      }
      text.append(")".repeat(open)).append(';');
    }
    return text.toString();
  }
}
