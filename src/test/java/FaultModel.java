import java.util.ArrayDeque;
import java.util.ArrayList;
import java.util.Arrays;
import java.util.Deque;
import java.util.HashSet;
import java.util.List;
import java.util.Set;
import java.util.regex.Matcher;
import java.util.regex.Pattern;

/**
 * Finds a text's first FAULT, TOKEN by TOKEN, by what may stand next. It knows no rules within rules as the class does:
 * a formula is a row of TOKENS, with a heap of what is open.
 */
final class FaultModel {
  private static final Set<String> WORDS = new HashSet<>(Arrays.asList("street", "by", "car", "at", "heads", "hoots",
      "body", "softens", "worth", "breaks", "draw", "or", "and", "not", "hoot", "bodied", "many", "lane", "year"));
  private static final Set<String> UNITS = new HashSet<>(Arrays.asList("hoot", "bodied", "many", "lane", "year"));
  private static final Pattern TOKEN =
      Pattern.compile("(?s)(?<word>[a-z]+)|(?<number>[0-9]+)|(?<sign>[-;()<>=+*/%])|(?<blank>[ \n])|(?<bad>.)");

  /** What is open within a formula: a bracket, or the formula itself. */
  private static final class Open {
    boolean hasRelation;
    int nots;
  }

  int fault;
  int place = -1;
  int columns = 6;
  int rows = 6;
  int breaks;
  int draw;
  int units;
  /** CELL, heading, HOOT, BODY of each. */
  final List<int[]> cars = new ArrayList<>();

  private final List<String> names = new ArrayList<>();
  private final Set<String> lines = new HashSet<>();
  /** What may stand next: a word, a sign, NAME, a number within bounds "0..99", and choices of these "body|;". */
  private final Deque<String> due = new ArrayDeque<>();
  private final Deque<Open> open = new ArrayDeque<>();
  private boolean inFormula;
  private boolean unitIsDue;
  private boolean oneBegins;
  private int unitsInOne;
  private final List<Integer> numbers = new ArrayList<>();

  FaultModel(String text) {
    Matcher m = TOKEN.matcher(text);
    while (fault == 0 && m.find()) {
      if (m.group("blank") == null) {
        fault = faultOf(m, text);
        place = fault == 0 ? -1 : m.start();
      }
    }
    if (fault == 0 && (inFormula || !due.isEmpty())) {
      fault = 2;
      place = text.length();
    }
  }

  private int faultOf(Matcher m, String text) {
    String token = m.group();
    boolean isNumber = m.group("number") != null;
    if (m.group("bad") != null || token.length() > (isNumber ? 4 : 8)) {
      return 1;
    }
    if (isNumber && m.end() < text.length() && Character.isLowerCase(text.charAt(m.end())) && text.charAt(m.end()) < 128) {
      return 1;
    }
    if (inFormula) {
      return stands(token, isNumber) ? 0 : 2;
    }
    return due.isEmpty() ? lineFault(token) : dueFault(token, isNumber);
  }

  private int lineFault(String word) {
    boolean isStreet = word.equals("street");
    boolean isCar = word.equals("car");
    if (isStreet ? !lines.isEmpty() : isCar ? names.size() == 8 : lines.contains(word)) {
      return 2;
    }
    lines.add(word);
    numbers.clear();
    switch (word) {
      case "street":
        due.addAll(Arrays.asList("1..8", "by", "1..8", ";"));
        return 0;
      case "car":
        due.addAll(Arrays.asList("NAME", "at", "0.." + (columns - 1), "row", "heads", "0..3", "hoots", "0..99", "body|;"));
        return 0;
      case "breaks":
        due.addAll(Arrays.asList("0..100", ";"));
        return 0;
      case "draw":
        due.addAll(Arrays.asList("0..999", ";"));
        return 0;
      case "softens":
      case "worth":
        beginFormula();
        return 0;
      default:
        return 2;
    }
  }

  private int dueFault(String token, boolean isNumber) {
    String what = due.poll();
    boolean isRow = what.equals("row");
    if (what.contains("..") || isRow) {
      return isNumber ? numberFault(Integer.parseInt(token), isRow ? "0.." + (rows - 1) : what, isRow) : 2;
    }
    if (what.equals("NAME")) {
      return nameFault(token);
    }
    if (!Arrays.asList(what.split("\\|")).contains(token)) {
      return 2;
    }
    if (token.equals("body")) {
      due.addAll(Arrays.asList("0..9", ";"));
    }
    if (token.equals(";")) {
      endLine();
    }
    return 0;
  }

  private int numberFault(int number, String bounds, boolean isRow) {
    String[] both = bounds.split("\\.\\.");
    if (number < Integer.parseInt(both[0]) || number > Integer.parseInt(both[1])) {
      return 4;
    }
    numbers.add(number);
    for (int[] car : cars) {
      if (isRow && car[0] == number * columns + numbers.get(0)) {
        return 3;
      }
    }
    return 0;
  }

  private int nameFault(String word) {
    if (!Character.isLowerCase(word.charAt(0)) || WORDS.contains(word)) {
      return 2;
    }
    if (names.contains(word)) {
      return 3;
    }
    names.add(word);
    return 0;
  }

  private void endLine() {
    if (names.size() > cars.size()) {
      int body = numbers.size() > 4 ? numbers.get(4) : 1;
      cars.add(new int[] {numbers.get(1) * columns + numbers.get(0), numbers.get(2), numbers.get(3), body});
    } else if (numbers.size() == 2) {
      columns = numbers.get(0);
      rows = numbers.get(1);
    } else if (lines.contains("breaks") && !lines.contains("breaks ended")) {
      lines.add("breaks ended");
      breaks = numbers.get(0);
    } else {
      draw = numbers.get(0);
    }
  }

  // ---- formulas

  private void beginFormula() {
    inFormula = true;
    unitsInOne = 0;
    open.push(new Open());
    beginOne();
  }

  private void beginOne() {
    open.peek().hasRelation = false;
    open.peek().nots = 0;
    oneBegins = true;
    unitIsDue = true;
  }

  /** Brackets and nots around what comes next. */
  private int around() {
    int around = open.size() - 1;
    for (Open o : open) {
      around += o.nots;
    }
    return around;
  }

  private boolean stands(String token, boolean isNumber) {
    return unitIsDue ? standsAsUnit(token, isNumber) : standsBehindUnit(token);
  }

  private boolean standsAsUnit(String token, boolean isNumber) {
    if (token.equals("not")) {
      boolean stands = oneBegins && around() < 7;
      open.peek().nots++;
      return stands;
    }
    boolean isBracket = token.equals("(");
    if (!isBracket && !isNumber && !UNITS.contains(token)) {
      return false;
    }
    units++;
    unitsInOne++;
    if (units > 60 || unitsInOne > 30 || isBracket && around() >= 7) {
      return false;
    }
    unitIsDue = false;
    oneBegins = false;
    if (isBracket) {
      open.push(new Open());
      beginOne();
    }
    return true;
  }

  private boolean standsBehindUnit(String token) {
    if ("+-*/%".contains(token)) {
      unitIsDue = true;
      return true;
    }
    if ("<>=".contains(token)) {
      boolean stands = !open.peek().hasRelation;
      open.peek().hasRelation = true;
      unitIsDue = true;
      return stands;
    }
    if (token.equals("and") || token.equals("or")) {
      beginOne();
      return true;
    }
    if (token.equals(open.size() > 1 ? ")" : ";")) {
      open.pop();
      inFormula = !open.isEmpty();
      return true;
    }
    return false;
  }
}
