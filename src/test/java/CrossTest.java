import java.util.ArrayDeque;
import java.util.ArrayList;
import java.util.Deque;
import java.util.List;
import java.util.Random;

/** All promises on many drawn JAMS, against the Model; and numbers of all sorts, which must never throw. */
public final class CrossTest {
  public static void main(String[] args) {
    for (int round = 0; round < 400; round++) {
      Random r = new Random(round);
      Model m = new Model();
      String text = m.draw(r, round % 2 == 0 ? 5 : 8);
      if (text != null) {
        run(text, m, r);
      }
    }
    for (int round = 0; round < 300; round++) {
      anyNumbers(new Random(1000 + round));
    }
    Kit.finish();
  }

  private static void run(String text, Model m, Random r) {
    VintageJams x = new VintageJams();
    Kit.due("jam of " + text, Kit.tell(x, text), m.cars.size());
    Kit.due("units of " + text, x.about(11), m.units);
    heard(x, m, r);
    Deque<Model> done = new ArrayDeque<>();
    Deque<Model> undone = new ArrayDeque<>();
    Model now = m.copy();
    for (int step = 0; step < 4; step++) {
      String where = text + " step " + step + ": ";
      look(x, now, where);
      bars(x, now, where, r);
      years(x, now, where, r);
      walks(x, now, where, r);
      for (int i = 0; i < 5; i++) {
        now = act(x, now, r, done, undone, where);
        Kit.due(where + "about(6)", x.about(6), done.size());
        Kit.due(where + "about(7)", x.about(7), undone.size());
      }
    }
  }

  private static Model act(VintageJams x, Model m, Random r, Deque<Model> done, Deque<Model> undone, String where) {
    int car = r.nextInt(m.cars.size() + 2) - 1;
    int number = r.nextInt(m.columns * m.rows + 2) - 1;
    Model next = m.copy();
    int due = -1;
    int got;
    int which = r.nextInt(9);
    switch (which) {
      case 0:
        if (m.isIn(car) && m.barredBy(car) == 0) {
          next.cars.get(car).in = false;
          due = Integer.bitCount(next.in());
        }
        got = x.let(car);
        break;
      case 1:
        if (m.isIn(car)) {
          next.cars.get(car).in = false;
          due = Integer.bitCount(next.in());
        }
        got = x.tow(car);
        break;
      case 2:
        if (m.isIn(car) && m.cars.get(car).body < 9) {
          due = ++next.cars.get(car).body;
        }
        got = x.polish(car);
        break;
      case 3:
        int heading = r.nextInt(6) - 1;
        if (m.isIn(car) && heading >= 0 && heading < 4 && heading != m.cars.get(car).heading) {
          next.cars.get(car).heading = heading;
          due = next.barredBy(car);
        }
        got = x.steer(car, heading);
        break;
      case 4:
      case 5:
        if (car >= 0 && car < m.cars.size() && !m.isIn(car) && m.open(number)) {
          next.put(car, number);
          due = next.barredBy(car);
        }
        got = x.put(car, number);
        break;
      case 6:
        Kit.due(where + "undo", x.undo(), !done.isEmpty());
        if (done.isEmpty()) {
          return m;
        }
        undone.push(m);
        return done.pop();
      case 7:
        Kit.due(where + "redo", x.redo(), !undone.isEmpty());
        if (undone.isEmpty()) {
          return m;
        }
        done.push(m);
        return undone.pop();
      default:
        due = next.passYear(true);
        got = x.year();
        break;
    }
    Kit.due(where + "act " + which + " of " + car, got, due);
    if (due == -1) {
      return m;
    }
    done.push(m);
    undone.clear();
    return next;
  }

  private static void look(VintageJams x, Model m, String where) {
    for (int i = 0; i < m.cars.size(); i++) {
      Model.Car c = m.cars.get(i);
      Kit.due(where + "CELL " + i, x.car(i, 0), m.cell(i));
      Kit.due(where + "heading " + i, x.car(i, 1), c.heading);
      Kit.due(where + "HOOT " + i, x.car(i, 2), c.hoot);
      Kit.due(where + "BODY " + i, x.car(i, 3), c.body);
      Kit.due(where + "who bars " + i, x.car(i, 4), m.barredBy(i));
      int barred = 0;
      for (int j = 0; j < m.cars.size(); j++) {
        barred |= (m.barredBy(j) >> i & 1) << j;
      }
      Kit.due(where + "whom bars " + i, x.car(i, 5), barred);
      Kit.due(where + "worth " + i, x.worth(i), c.in ? m.worth(i) : Kit.NO_PRICE);
      Kit.due(where + "softer " + i, x.softer(i), c.in ? m.softer(i) : -1);
    }
    for (int cell = -1; cell <= m.columns * m.rows; cell++) {
      boolean is = m.hasCell(cell);
      Kit.due(where + "spot " + cell, x.spot(cell), is ? m.who(cell % m.columns, cell / m.columns) : -1);
      int lines = is ? 0 : -1;
      for (int i = 0; i < m.cars.size() && is; i++) {
        lines += m.isIn(i) && m.line(i).contains(cell) ? 1 : 0;
      }
      Kit.due(where + "lines " + cell, x.lines(cell), lines);
    }
    Kit.due(where + "IN", x.about(3), m.in());
    Kit.due(where + "year", x.about(4), m.year);
    Kit.due(where + "SEED", x.about(5), m.seed);
  }

  private static int countOr(int set, int what) {
    return set < 0 ? -1 : what == 0 ? Integer.bitCount(set) : set;
  }

  private static void bars(VintageJams x, Model m, String where, Random r) {
    Kit.due(where + "free", x.free(), m.free());
    List<Integer> order = m.order();
    Kit.due(where + "order", x.order(), order == null ? -1 : order.size());
    dueLies(x, where + "order", order == null ? new ArrayList<>() : order);
    Kit.due(where + "loose", x.loose(), m.loose());
    for (int what = 0; what < 2; what++) {
      Kit.due(where + "ring", x.ring(what), countOr(m.ring(), what));
      Kit.due(where + "tows", x.tows(what), countOr(m.tows(), what));
    }
    for (int i = 0; i < m.cars.size(); i++) {
      Kit.due(where + "ahead " + i, x.ahead(i), m.isIn(i) ? m.ahead(i) : -1);
      Kit.due(where + "until " + i, x.until(i), m.isIn(i) ? m.until(i) : -1);
      Kit.due(where + "lot " + i, x.lot(i), m.isIn(i) ? -1 : m.lot(i));
    }
    int[] turn = m.turn();
    int[] exchange = m.exchange();
    for (int what = 0; what < 3; what++) {
      Kit.due(where + "turn " + what, x.turn(what), turn[what]);
      Kit.due(where + "exchange " + what, x.exchange(what), exchange[what]);
    }
    int heading = r.nextInt(4);
    Model all = m.copy();
    all.cars.forEach(c -> c.heading = heading);
    Kit.due(where + "law " + heading, x.law(heading), all.freeCount());
  }

  private static void dueLies(VintageJams x, String call, List<Integer> due) {
    Kit.dueLies(x, call, due.stream().limit(16).mapToInt(i -> i).toArray());
  }

  private static void years(VintageJams x, Model m, String where, Random r) {
    Kit.due(where + "price", x.price(), m.price());
    Kit.due(where + "noise", x.noise(), m.noise());
    int[] prices = new int[61];
    int quiet = -1;
    int vintage = 0;
    Model later = m.copy();
    for (int n = 0; n <= 99; n++) {
      if (n <= 60) {
        prices[n] = later.price();
        vintage = n <= 30 && prices[n] > prices[vintage] ? n : vintage;
      }
      quiet = quiet < 0 && later.noise() == 0 ? n : quiet;
      later.passYear(false);
    }
    Kit.due(where + "quiet", x.quiet(), quiet);
    Kit.due(where + "vintage(0)", x.vintage(0), vintage);
    Kit.due(where + "vintage(1)", x.vintage(1), prices[vintage]);
    int n = r.nextInt(61);
    Kit.due(where + "will " + n, x.will(n), prices[n]);
    int price = prices[r.nextInt(61)] + r.nextInt(3) - 1;
    int ripe = 0;
    while (ripe <= 60 && prices[ripe] < price) {
      ripe++;
    }
    Kit.due(where + "ripe " + price, x.ripe(price), ripe > 60 ? -1 : ripe);
    int dear = r.nextInt(21) - 10;
    int dearSet = 0;
    int finest = -1;
    int heir = -1;
    for (int i = m.cars.size() - 1; i >= 0; i--) {
      if (m.isIn(i)) {
        dearSet |= m.worth(i) >= dear ? 1 << i : 0;
        finest = finest < 0 || m.worth(i) >= m.worth(finest) ? i : finest;
        heir = heir < 0 || m.without(1 << i).price() <= m.without(1 << heir).price() ? i : heir;
        Kit.due(where + "hoot " + i + ", " + n, x.hoot(i, n), m.behind(n).cars.get(i).hoot);
      }
    }
    Kit.due(where + "dear " + dear, x.dear(dear), dearSet);
    Kit.due(where + "finest", x.finest(), finest);
    Kit.due(where + "heir", x.heir(), heir);
    int[] inRow = new int[m.rows];
    int fullest = 0;
    m.cars.forEach(c -> inRow[c.row] += c.in ? 1 : 0);
    for (int row = 1; row < m.rows; row++) {
      fullest = inRow[row] > inRow[fullest] ? row : fullest;
    }
    Kit.due(where + "fullest", x.fullest(), fullest);
  }

  private static void walks(VintageJams x, Model m, String where, Random r) {
    int cells = m.columns * m.rows;
    int spot = r.nextInt(cells);
    int[] steps = m.stepsFrom(spot);
    int reach = 0;
    for (int other = 0; other < cells; other++) {
      Kit.due(where + "walk " + spot + ", " + other, x.walk(spot, other), steps[other]);
      reach += steps[other] >= 0 ? 1 : 0;
    }
    Kit.due(where + "reach " + spot, x.reach(spot), reach);
    for (int i = 0; i < m.cars.size(); i++) {
      int due = m.isIn(i) ? m.windowSteps(spot, i) : -1;
      Kit.due(where + "window " + spot + ", " + i, x.window(spot, i), due);
      if (due <= 7) {
        dueLies(x, where + "window " + spot + ", " + i, due < 0 ? new ArrayList<>() : m.way(spot, i, due));
      }
    }
  }

  private static void heard(VintageJams x, Model m, Random r) {
    if (m.cars.isEmpty()) {
      return;
    }
    int[][] worths = new int[100][21];
    for (int hoot = 0; hoot < 100; hoot++) {
      Model w = m.copy();
      w.cars.get(m.cars.size() - 1).hoot = hoot;
      for (int years = 0; years <= 20; years++) {
        worths[hoot][years] = w.worth(m.cars.size() - 1);
        w.passYear(false);
      }
    }
    int secret = r.nextInt(100);
    List<int[]> all = new ArrayList<>();
    int time = 0;
    for (int i = 0; i < 8; i++) {
      int years = r.nextInt(21);
      int worth = Math.max(-9999, Math.min(9999, worths[r.nextInt(100)][years] + r.nextInt(3) - 1));
      boolean is = r.nextInt(8) == 0 ? r.nextBoolean() : worths[secret][years] >= worth;
      Kit.due("heard", x.heard(years, worth, is), i);
      all.add(new int[] {years, worth, is ? 1 : 0, time, Integer.MAX_VALUE});
      if (r.nextInt(3) == 0) {
        int back = r.nextInt(i + 1);
        Kit.due("untell", x.untell(back), all.get(back)[4] == Integer.MAX_VALUE);
        all.get(back)[4] = Math.min(all.get(back)[4], time);
      }
      int by = r.nextInt(3);
      time += by;
      Kit.due("later", x.later(by), time);
    }
    for (int k = -1; k <= time + 1; k++) {
      dueKnown(x, worths, all, k);
    }
  }

  private static void dueKnown(VintageJams x, int[][] worths, List<int[]> all, int k) {
    List<Integer> fits = new ArrayList<>();
    for (int hoot = 0; hoot < 100; hoot++) {
      boolean fit = true;
      for (int[] h : all) {
        boolean counts = h[3] <= k && h[4] > k;
        fit &= !counts || worths[hoot][h[0]] >= h[1] == (h[2] == 1);
      }
      if (fit) {
        fits.add(hoot);
      }
    }
    Kit.due("fits", x.fits(k), fits.size());
    Kit.due("sure(0)", x.sure(0, k), fits.isEmpty() ? -1 : fits.get(0));
    Kit.due("sure(1)", x.sure(1, k), fits.isEmpty() ? -1 : fits.get(fits.size() - 1));
    int best = -1;
    int least = fits.isEmpty() ? -1 : 1000;
    for (int years = 0; years <= 20 && !fits.isEmpty(); years++) {
      int most = 0;
      for (int hoot : fits) {
        int same = 0;
        for (int other : fits) {
          same += worths[hoot][years] == worths[other][years] ? 1 : 0;
        }
        most = Math.max(most, same);
      }
      if (most < least) {
        best = years;
        least = most;
      }
    }
    Kit.due("ask(0)", x.ask(0, k), best);
    Kit.due("ask(1)", x.ask(1, k), least);
  }

  private static int any(Random r) {
    switch (r.nextInt(8)) {
      case 0:
        return r.nextInt();
      case 1:
        return Integer.MIN_VALUE + r.nextInt(3);
      case 2:
        return Integer.MAX_VALUE - r.nextInt(3);
      case 3:
        return r.nextInt(200) - 100;
      default:
        return r.nextInt(14) - 2;
    }
  }

  private static void anyNumbers(Random r) {
    VintageJams x = new VintageJams();
    String text = new Model().draw(r, 8);
    if (text != null) {
      if (r.nextInt(3) == 0) {
        text = text.substring(0, r.nextInt(text.length() + 1)) + (char) r.nextInt(256) + text;
      }
      Kit.tell(x, text.substring(0, Math.min(1580, text.length())));
    }
    for (int i = 0; i < 500; i++) {
      call(x, r.nextInt(54), r);
    }
  }

  private static void call(VintageJams x, int which, Random r) {
    int a = any(r);
    int b = any(r);
    int c = any(r);
    int[] got = {
        which == 0 ? x.feed(a, b, c, a, b) : 0, which == 1 ? x.end(a) : 0,
        which == 2 && r.nextInt(5) == 0 ? x.jam() : 0, which == 3 ? x.fault(a) : 0, which == 4 ? x.car(a, b) : 0,
        which == 5 ? x.spot(a) : 0, which == 6 ? x.worth(a) : 0, which == 7 ? x.year() : 0,
        which == 8 ? x.let(a) : 0, which == 9 ? x.tow(a) : 0, which == 10 ? x.polish(a) : 0,
        which == 11 ? x.steer(a, b) : 0, which == 12 ? x.put(a, b) : 0, which == 13 && x.undo() ? 1 : 0,
        which == 14 && x.redo() ? 1 : 0, which == 15 ? x.free() : 0, which == 16 ? x.order() : 0,
        which == 17 ? x.loose() : 0, which == 18 ? x.ring(a) : 0, which == 19 ? x.tows(a) : 0,
        which == 20 ? x.ahead(a) : 0, which == 21 ? x.turn(a) : 0, which == 22 ? x.lines(a) : 0,
        which == 23 ? x.lot(a) : 0, which == 24 ? x.until(a) : 0, which == 25 ? x.exchange(a) : 0,
        which == 26 ? x.dear(a) : 0, which == 27 ? x.noise() : 0, which == 28 ? x.softer(a) : 0,
        which == 29 ? x.price() : 0, which == 30 ? x.will(a) : 0, which == 31 ? x.hoot(a, b) : 0,
        which == 32 ? x.vintage(a) : 0, which == 33 ? x.ripe(a) : 0, which == 34 ? x.quiet() : 0,
        which == 35 ? x.walk(a, b) : 0, which == 36 ? x.window(a, b) : 0, which == 37 ? x.reach(a) : 0,
        which == 38 ? x.sale(a, b) : 0, which == 39 ? x.heir() : 0, which == 40 ? x.finest() : 0,
        which == 41 ? x.fullest() : 0, which == 42 ? x.law(a) : 0, which == 43 ? x.odds(a, b, c) : 0,
        which == 44 ? x.lies(a) : 0, which == 45 ? x.heard(a, b, c > 0) : 0, which == 46 && x.untell(a) ? 1 : 0,
        which == 47 ? x.later(a) : 0, which == 48 ? x.fits(a) : 0, which == 49 ? x.sure(a, b) : 0,
        which == 50 ? x.ask(a, b) : 0, which == 51 ? x.image(a) : 0, which == 52 ? x.back(a) : 0,
        which == 53 ? x.about(a) : 0};
    Kit.due("a call for each", got.length, 54);
  }
}
