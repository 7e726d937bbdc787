import java.lang.reflect.InvocationTargetException;
import java.lang.reflect.Method;
import java.util.Arrays;
import java.util.Comparator;

/** What the tests share: texts put on the TAPE, and answers held against what is due. */
final class Kit {
  static final int NO_PRICE = -1000000000;
  static final int BLANKS = 0x20202020;
  static final int LEAST = Integer.MIN_VALUE;
  static final int MOST = Integer.MAX_VALUE;
  private static int wrong = 0;
  private static int right = 0;
  private static String test = "";

  private Kit() {}

  static void due(String call, long got, long want) {
    if (got == want) {
      right++;
    } else {
      wrong++;
      System.out.println(test + call + " answered " + got + ", due is " + want);
    }
  }

  static void due(String call, boolean got, boolean want) {
    due(call, got ? 1 : 0, want ? 1 : 0);
  }

  static void due(String call, String got, String want) {
    if (!got.equals(want)) {
      System.out.println(test + call + ": " + got + " is not " + want);
    }
    due(call, got.equals(want), true);
  }

  /**
   * Runs each test of a class of edges. A test's name begins with the number of its promise, so that a promise without
   * any is seen.
   */
  static void runEdges(Class<?> tests, int firstPromise, int lastPromise) {
    Method[] methods = tests.getDeclaredMethods();
    Arrays.sort(methods, Comparator.comparing(Method::getName));
    int[] counts = new int[lastPromise + 1];
    for (Method m : methods) {
      if (m.getName().matches("promise\\d\\d_\\w+")) {
        int promise = Integer.parseInt(m.getName().substring(7, 9));
        due(m.getName() + " is of these", promise >= firstPromise && promise <= lastPromise, true);
        counts[promise]++;
        runEdge(m);
      }
    }
    for (int promise = firstPromise; promise <= lastPromise; promise++) {
      due("promise " + promise + " has a test", counts[promise] > 0, true);
    }
  }

  private static void runEdge(Method m) {
    int before = right + wrong;
    test = m.getName() + ": ";
    try {
      m.invoke(null);
    } catch (InvocationTargetException e) {
      due("threw " + e.getCause(), 1, 0);
    } catch (IllegalAccessException e) {
      due("can't be called", 1, 0);
    }
    test = "";
    due(m.getName() + " asks something", right + wrong > before, true);
  }

  /** The text comes behind what is on the TAPE; it must have room for whole feeds. */
  static void feed(VintageJams x, String text) {
    int before = x.about(10);
    int[] numbers = new int[5];
    for (int from = 0; from < text.length(); from += 20) {
      for (int i = 0; i < 5; i++) {
        numbers[i] = 0;
        for (int k = 0; k < 4; k++) {
          int place = from + 4 * i + k;
          numbers[i] = numbers[i] << 8 | (place < text.length() ? text.charAt(place) & 255 : 32);
        }
      }
      x.feed(numbers[0], numbers[1], numbers[2], numbers[3], numbers[4]);
    }
    due("end of a text", x.end(before + text.length()), before + text.length());
  }

  static int tell(VintageJams x, String text) {
    feed(x, text);
    return x.jam();
  }

  static VintageJams told(String text) {
    VintageJams x = new VintageJams();
    int cars = tell(x, text);
    if (cars < 0) {
      due("jam() of " + text + " (fault " + x.fault(0) + " at " + x.fault(1) + ")", cars, 0);
    }
    return x;
  }

  /** All that lies there, and nothing behind it. */
  static void dueLies(VintageJams x, String call, int... want) {
    due(call + ": about(12)", x.about(12), want.length);
    for (int i = 0; i < want.length; i++) {
      due(call + ": lies(" + i + ")", x.lies(i), want[i]);
    }
    due(call + ": lies(" + want.length + ")", x.lies(want.length), VintageJams.NONE);
  }

  /** Where all are, headings, HOOT, BODY, the year, the SEED, as one text. */
  static String state(VintageJams x) {
    StringBuilder all = new StringBuilder();
    for (int car = 0; car < x.about(0); car++) {
      for (int what = 0; what < 4; what++) {
        all.append(x.car(car, what)).append(' ');
      }
    }
    return all.append(x.about(4)).append(' ').append(x.about(5)).toString();
  }

  /** All that can be looked at without doing anything: held against what was before where a call does nothing. */
  static String everything(VintageJams x) {
    StringBuilder all = new StringBuilder("about");
    for (int what = 0; what <= 13; what++) {
      all.append(' ').append(x.about(what));
    }
    all.append(" fault ").append(x.fault(0)).append(' ').append(x.fault(1)).append(" cars");
    for (int car = 0; car < x.about(0); car++) {
      for (int what = 0; what <= 5; what++) {
        all.append(' ').append(x.car(car, what));
      }
      all.append(' ').append(x.worth(car)).append(' ').append(x.softer(car)).append(',');
    }
    all.append(" fits ").append(x.fits(x.about(9))).append(" lies");
    for (int i = 0; i < x.about(12); i++) {
      all.append(' ').append(x.lies(i));
    }
    return all.toString();
  }

  /** CARS are called by letters, as they are numbered. */
  static String car(int number, int column, int row, int heading, int hoot) {
    return "car " + (char) ('a' + number) + " at " + column + " " + row + " heads " + heading + " hoots " + hoot + ";";
  }

  static String car(int number, int column, int row, int heading, int hoot, int body) {
    String told = car(number, column, row, heading, hoot);
    return told.substring(0, told.length() - 1) + " body " + body + ";";
  }

  /** Eight CARS in a row, all heading the same way. */
  static String eightInARow(int heading) {
    StringBuilder text = new StringBuilder("street 8 by 1;");
    for (int i = 0; i < 8; i++) {
      text.append(car(i, i, 0, heading, 0));
    }
    return text.toString();
  }

  /** A round of all eight: each is BARRED by the next one alone, the last one by the first. */
  static String roundOfEight() {
    int[][] corners = {{0, 0, 1}, {4, 0, 2}, {4, 2, 1}, {6, 2, 2}, {6, 6, 3}, {3, 6, 0}, {3, 4, 3}, {0, 4, 0}};
    StringBuilder text = new StringBuilder("street 8 by 8;");
    for (int i = 0; i < 8; i++) {
      text.append(car(i, corners[i][0], corners[i][1], corners[i][2], 0));
    }
    return text.toString();
  }

  static String repeat(String part, int times) {
    StringBuilder all = new StringBuilder();
    for (int i = 0; i < times; i++) {
      all.append(part);
    }
    return all.toString();
  }

  static void finish() {
    System.out.println(right + " answers as due, " + wrong + " not");
    if (wrong != 0) {
      System.exit(1);
    }
  }
}
