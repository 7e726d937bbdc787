import java.util.ArrayList;
import java.util.Arrays;
import java.util.List;
import java.util.Random;

/** A JAM answered slowly, straight from the document's words, so that the class can be held against it. */
final class Model {
  static final int[][] STEPS = {{0, -1}, {1, 0}, {0, 1}, {-1, 0}};

  interface Node {
    int value(int hoot, int bodied, int many, int lane, int year);
  }

  /** A formula as a text and as what comes of it. */
  static final class Formula {
    final String text;
    final Node node;
    final int units;

    Formula(String text, Node node, int units) {
      this.text = text;
      this.node = node;
      this.units = units;
    }
  }

  static final class Car {
    int column;
    int row;
    int heading;
    int hoot;
    int body;
    boolean in = true;

    Car copy() {
      Car c = new Car();
      c.column = column;
      c.row = row;
      c.heading = heading;
      c.hoot = hoot;
      c.body = body;
      c.in = in;
      return c;
    }
  }

  int columns = 6;
  int rows = 6;
  int breaks;
  int seed;
  int year;
  int units;
  Node worth = (h, b, m, l, y) -> b * y - h;
  Node softens = (h, b, m, l, y) -> 1;
  List<Car> cars = new ArrayList<>();

  Model copy() {
    Model m = new Model();
    m.columns = columns;
    m.rows = rows;
    m.breaks = breaks;
    m.seed = seed;
    m.year = year;
    m.units = units;
    m.worth = worth;
    m.softens = softens;
    for (Car c : cars) {
      m.cars.add(c.copy());
    }
    return m;
  }

  // ---- drawn JAMS

  private static Formula unit(Random r, int depth) {
    switch (r.nextInt(depth > 0 ? 7 : 6)) {
      case 0:
        int n = r.nextInt(4) == 0 ? r.nextInt(10000) : r.nextInt(12);
        return new Formula(Integer.toString(n), (h, b, m, l, y) -> n, 1);
      case 1:
        return new Formula("hoot", (h, b, m, l, y) -> h, 1);
      case 2:
        return new Formula("bodied", (h, b, m, l, y) -> b, 1);
      case 3:
        return new Formula("many", (h, b, m, l, y) -> m, 1);
      case 4:
        return new Formula("lane", (h, b, m, l, y) -> l, 1);
      case 5:
        return new Formula("year", (h, b, m, l, y) -> y, 1);
      default:
        Formula e = either(r, depth - 1);
        return new Formula("(" + e.text + ")", e.node, e.units + 1);
    }
  }

  private static int divide(int a, int b, boolean rest) {
    if (b == 0) {
      return 0;
    }
    return (int) (rest ? (long) a % b : (long) a / b);
  }

  private static Formula term(Random r, int depth) {
    Formula f = unit(r, depth);
    while (r.nextInt(4) == 0) {
      Node a = f.node;
      Formula g = unit(r, depth);
      Node b = g.node;
      int sign = r.nextInt(3);
      Node node = (h, bo, m, l, y) -> {
        int p = a.value(h, bo, m, l, y);
        int q = b.value(h, bo, m, l, y);
        return sign == 0 ? (int) ((long) p * q) : divide(p, q, sign == 2);
      };
      f = new Formula(f.text + " " + "*/%".charAt(sign) + g.text, node, f.units + g.units);
    }
    return f;
  }

  private static Formula sum(Random r, int depth) {
    Formula f = term(r, depth);
    while (r.nextInt(3) == 0) {
      Node a = f.node;
      Formula g = term(r, depth);
      Node b = g.node;
      boolean plus = r.nextBoolean();
      Node node = (h, bo, m, l, y) -> plus ? a.value(h, bo, m, l, y) + b.value(h, bo, m, l, y)
          : a.value(h, bo, m, l, y) - b.value(h, bo, m, l, y);
      f = new Formula(f.text + (plus ? "+" : "-") + g.text, node, f.units + g.units);
    }
    return f;
  }

  private static Formula one(Random r, int depth) {
    if (depth > 0 && r.nextInt(6) == 0) {
      Formula f = one(r, depth - 1);
      return new Formula("not " + f.text, (h, b, m, l, y) -> f.node.value(h, b, m, l, y) == 0 ? 1 : 0, f.units);
    }
    Formula f = sum(r, depth);
    if (r.nextInt(5) != 0) {
      return f;
    }
    Formula g = sum(r, depth);
    int sign = r.nextInt(3);
    Node node = (h, b, m, l, y) -> {
      int by = Integer.compare(f.node.value(h, b, m, l, y), g.node.value(h, b, m, l, y));
      return (sign == 0 ? by < 0 : sign == 1 ? by > 0 : by == 0) ? 1 : 0;
    };
    return new Formula(f.text + "<>=".charAt(sign) + g.text, node, f.units + g.units);
  }

  private static Formula both(Random r, int depth) {
    Formula f = one(r, depth);
    while (r.nextInt(8) == 0) {
      Node a = f.node;
      Formula g = one(r, depth);
      Node node = (h, b, m, l, y) -> a.value(h, b, m, l, y) != 0 & g.node.value(h, b, m, l, y) != 0 ? 1 : 0;
      f = new Formula(f.text + " and " + g.text, node, f.units + g.units);
    }
    return f;
  }

  private static Formula either(Random r, int depth) {
    Formula f = both(r, depth);
    while (r.nextInt(8) == 0) {
      Node a = f.node;
      Formula g = both(r, depth);
      Node node = (h, b, m, l, y) -> a.value(h, b, m, l, y) != 0 | g.node.value(h, b, m, l, y) != 0 ? 1 : 0;
      f = new Formula(f.text + " or " + g.text, node, f.units + g.units);
    }
    return f;
  }

  static Formula formula(Random r) {
    Formula f = either(r, 4);
    while (f.units > 30) {
      f = either(r, 3);
    }
    return f;
  }

  /** Draws a JAM, is it then, and gives its text. */
  String draw(Random r, int longest) {
    StringBuilder text = new StringBuilder();
    if (r.nextInt(5) != 0) {
      columns = 1 + r.nextInt(longest);
      rows = 1 + r.nextInt(longest);
      text.append("street ").append(columns).append(" by ").append(rows).append(";");
    }
    if (r.nextInt(3) != 0) {
      Formula f = formula(r);
      worth = f.node;
      units += f.units;
      text.append("worth ").append(f.text).append(" ;\n");
    }
    if (r.nextInt(2) != 0) {
      Formula f = formula(r);
      softens = f.node;
      units += f.units;
      text.append("softens(").append(f.text).append(");");
      units++;
      if (f.units == 30) {
        return null;
      }
    }
    int count = Math.min(r.nextInt(9), columns * rows);
    while (cars.size() < count) {
      Car c = new Car();
      c.column = r.nextInt(columns);
      c.row = r.nextInt(rows);
      c.heading = r.nextInt(4);
      c.hoot = r.nextInt(4) == 0 ? r.nextInt(100) : r.nextInt(20);
      boolean told = r.nextInt(4) != 0;
      c.body = told ? r.nextInt(10) : 1;
      if (who(c.column, c.row) < 0) {
        text.append("car n").append((char) ('a' + cars.size())).append(" at ").append(c.column).append(' ');
        text.append(c.row).append(" heads ").append(c.heading).append(" hoots ").append(c.hoot);
        text.append(told ? " body " + c.body : "").append(";");
        cars.add(c);
      }
    }
    if (r.nextInt(3) != 0) {
      breaks = r.nextInt(101);
      text.append("breaks ").append(breaks).append(";");
    }
    if (r.nextInt(3) != 0) {
      seed = r.nextInt(1000);
      text.append("draw ").append(seed).append(";");
    }
    return text.length() > 1580 ? null : text.toString();
  }

  // ---- what is so

  int who(int column, int row) {
    for (int i = 0; i < cars.size(); i++) {
      Car c = cars.get(i);
      if (c.in && c.column == column && c.row == row) {
        return i;
      }
    }
    return -1;
  }

  boolean isIn(int car) {
    return car >= 0 && car < cars.size() && cars.get(car).in;
  }

  int cell(int car) {
    Car c = cars.get(car);
    return c.in ? c.row * columns + c.column : -1;
  }

  boolean hasCell(int cell) {
    return cell >= 0 && cell < columns * rows;
  }

  List<Integer> line(int car) {
    List<Integer> line = new ArrayList<>();
    Car c = cars.get(car);
    int column = c.column + STEPS[c.heading][0];
    int row = c.row + STEPS[c.heading][1];
    while (column >= 0 && row >= 0 && column < columns && row < rows) {
      line.add(row * columns + column);
      column += STEPS[c.heading][0];
      row += STEPS[c.heading][1];
    }
    return line;
  }

  int barredBy(int car) {
    int set = 0;
    if (isIn(car)) {
      for (int cell : line(car)) {
        int other = who(cell % columns, cell / columns);
        if (other >= 0) {
          set |= 1 << other;
        }
      }
    }
    return set;
  }

  int in() {
    int set = 0;
    for (int i = 0; i < cars.size(); i++) {
      set |= isIn(i) ? 1 << i : 0;
    }
    return set;
  }

  int free() {
    int set = 0;
    for (int i = 0; i < cars.size(); i++) {
      set |= isIn(i) && barredBy(i) == 0 ? 1 << i : 0;
    }
    return set;
  }

  int freeCount() {
    return Integer.bitCount(free());
  }

  int worth(int car) {
    Car c = cars.get(car);
    int value = worth.value(c.hoot, c.body, Integer.bitCount(in()), c.row, year);
    return Math.max(-9999, Math.min(9999, value));
  }

  int softer(int car) {
    Car c = cars.get(car);
    int value = softens.value(c.hoot, c.body, Integer.bitCount(in()), c.row, year);
    return value < 0 ? 0 : Math.min(value, c.hoot);
  }

  int price() {
    int price = 0;
    for (int i = 0; i < cars.size(); i++) {
      price += isIn(i) ? worth(i) : 0;
    }
    return price;
  }

  int noise() {
    return cars.stream().filter(c -> c.in).mapToInt(c -> c.hoot).sum();
  }

  int passYear(boolean lamps) {
    int[] less = new int[cars.size()];
    for (int i = 0; i < less.length; i++) {
      less[i] = isIn(i) ? softer(i) : 0;
    }
    int broken = 0;
    for (int i = 0; i < less.length; i++) {
      Car c = cars.get(i);
      c.hoot -= less[i];
      if (c.in && lamps) {
        seed = (seed * 137 + 71) % 1000;
        if (seed % 100 < breaks) {
          broken |= 1 << i;
          c.body = Math.max(0, c.body - 1);
        }
      }
    }
    year++;
    return broken;
  }

  Model behind(int years) {
    Model m = copy();
    for (int i = 0; i < years; i++) {
      m.passYear(false);
    }
    return m;
  }

  Model without(int set) {
    Model m = copy();
    for (int i = 0; i < cars.size(); i++) {
      m.cars.get(i).in &= (set >> i & 1) == 0;
    }
    return m;
  }

  // ---- ORDER, RING, TOWS and their like

  /** The first ORDER found by trying all, least numbers first; null if there is none. */
  List<Integer> order() {
    if (in() == 0) {
      return new ArrayList<>();
    }
    for (int i = 0; i < cars.size(); i++) {
      if (isIn(i) && barredBy(i) == 0) {
        List<Integer> rest = without(1 << i).order();
        if (rest != null) {
          rest.add(0, i);
          return rest;
        }
        return null;
      }
    }
    return null;
  }

  /** Each set of CARS that is left behind some lets: how many lets lead to it, or -1. */
  int[] lets() {
    int[] steps = new int[256];
    Arrays.fill(steps, -1);
    steps[in()] = 0;
    for (int set = 255; set >= 0; set--) {
      if (steps[set] >= 0) {
        Model m = without(in() & ~set);
        for (int i = 0; i < cars.size(); i++) {
          if (m.isIn(i) && m.barredBy(i) == 0) {
            steps[set & ~(1 << i)] = steps[set] + 1;
          }
        }
      }
    }
    return steps;
  }

  int loose() {
    return Arrays.stream(lets()).max().getAsInt();
  }

  int until(int car) {
    int[] steps = lets();
    int best = -1;
    for (int set = 0; set < 256; set++) {
      if (steps[set] > 0 && (set >> car & 1) == 0 && (best < 0 || steps[set] < best)) {
        best = steps[set];
      }
    }
    return best;
  }

  int ring() {
    int best = -1;
    for (int set = 255; set > 0; set--) {
      boolean ring = (set & ~in()) == 0;
      for (int i = 0; i < 8 && ring; i++) {
        ring = (set >> i & 1) == 0 || (barredBy(i) & set) != 0;
      }
      if (ring && (best < 0 || Integer.bitCount(set) <= Integer.bitCount(best))) {
        best = set;
      }
    }
    return best;
  }

  int tows() {
    int best = in();
    for (int set = 255; set >= 0; set--) {
      if ((set & ~in()) == 0 && Integer.bitCount(set) <= Integer.bitCount(best) && without(set).order() != null) {
        best = set;
      }
    }
    return best;
  }

  int ahead(int car) {
    int n = cars.size();
    boolean[][] to = new boolean[n][n];
    for (int i = 0; i < n; i++) {
      for (int j = 0; j < n; j++) {
        to[i][j] = (barredBy(i) >> j & 1) != 0;
      }
    }
    for (int k = 0; k < n; k++) {
      for (int i = 0; i < n; i++) {
        for (int j = 0; j < n; j++) {
          to[i][j] |= to[i][k] && to[k][j];
        }
      }
    }
    int set = 0;
    for (int j = 0; j < n; j++) {
      set |= to[car][j] ? 1 << j : 0;
    }
    return set;
  }

  int[] turn() {
    int[] best = {-1, -1, -1};
    for (int i = cars.size() - 1; i >= 0; i--) {
      for (int heading = 3; heading >= 0 && isIn(i); heading--) {
        Model m = copy();
        m.cars.get(i).heading = heading;
        if (heading != cars.get(i).heading && m.freeCount() >= best[2]) {
          best = new int[] {i, heading, m.freeCount()};
        }
      }
    }
    return best;
  }

  int lot(int car) {
    int best = -1;
    int most = -1;
    for (int cell = columns * rows - 1; cell >= 0; cell--) {
      if (who(cell % columns, cell / columns) < 0) {
        Model m = copy();
        m.put(car, cell);
        if (m.freeCount() >= most) {
          best = cell;
          most = m.freeCount();
        }
      }
    }
    return best;
  }

  void put(int car, int cell) {
    Car c = cars.get(car);
    c.in = true;
    c.column = cell % columns;
    c.row = cell / columns;
  }

  int[] exchange() {
    int[] best = {-1, -1, -1};
    for (int i = cars.size() - 1; i >= 0; i--) {
      for (int j = cars.size() - 1; j > i; j--) {
        if (isIn(i) && isIn(j)) {
          Model m = copy();
          m.put(i, cell(j));
          m.put(j, cell(i));
          if (m.freeCount() > freeCount() && m.freeCount() >= best[2]) {
            best = new int[] {i, j, m.freeCount()};
          }
        }
      }
    }
    return best;
  }

  // ---- WALKS

  boolean open(int cell) {
    return hasCell(cell) && who(cell % columns, cell / columns) < 0;
  }

  boolean beside(int a, int b) {
    return Math.abs(a % columns - b % columns) + Math.abs(a / columns - b / columns) == 1;
  }

  int[] stepsFrom(int spot) {
    int cells = columns * rows;
    int[] steps = new int[cells];
    Arrays.fill(steps, 1000);
    if (open(spot)) {
      steps[spot] = 0;
    }
    for (int round = 0; round < cells; round++) {
      for (int a = 0; a < cells; a++) {
        for (int b = 0; b < cells; b++) {
          if (open(a) && open(b) && beside(a, b)) {
            steps[b] = Math.min(steps[b], steps[a] + 1);
          }
        }
      }
    }
    for (int i = 0; i < cells; i++) {
      steps[i] = steps[i] >= 1000 ? -1 : steps[i];
    }
    return steps;
  }

  /** All WALKS of so many steps, least CELLS first, the first one that comes to the WINDOW; null if none does. */
  List<Integer> way(int spot, int car, int steps) {
    if (!open(spot)) {
      return null;
    }
    List<Integer> way = new ArrayList<>();
    way.add(spot);
    if (steps == 0) {
      return beside(spot, cell(car)) ? way : null;
    }
    for (int next = 0; next < columns * rows; next++) {
      if (beside(spot, next)) {
        List<Integer> rest = way(next, car, steps - 1);
        if (rest != null) {
          way.addAll(rest);
          return way;
        }
      }
    }
    return null;
  }

  int windowSteps(int spot, int car) {
    int[] steps = stepsFrom(spot);
    int best = -1;
    for (int cell = 0; cell < steps.length; cell++) {
      if (steps[cell] >= 0 && beside(cell, cell(car)) && (best < 0 || steps[cell] < best)) {
        best = steps[cell];
      }
    }
    return best;
  }
}
