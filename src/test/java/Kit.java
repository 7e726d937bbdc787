/** What the tests share: texts put on the TAPE, and answers held against what is due. */
final class Kit {
  static final int NO_PRICE = -1000000000;
  private static int wrong = 0;
  private static int right = 0;

  private Kit() {}

  static void due(String call, long got, long want) {
    if (got == want) {
      right++;
    } else {
      wrong++;
      System.out.println(call + " answered " + got + ", due is " + want);
    }
  }

  static void due(String call, boolean got, boolean want) {
    due(call, got ? 1 : 0, want ? 1 : 0);
  }

  /** The text comes behind what is on the TAPE; it must have room for whole feeds. */
  static void feed(VintageJams x, String text) {
    int before = x.about(10);
    int[] numbers = new int[5];
    for (int from = 0; from < text.length(); from += 20) {
      for (int i = 0; i < 5; i++) {
        numbers[i] = 0;
        for (int k = 0; k < 4; k++) {
          int place = from + 4 * i + k;
          numbers[i] = numbers[i] << 8 | (place < text.length() ? text.charAt(place) & 255 : 32);
        }
      }
      x.feed(numbers[0], numbers[1], numbers[2], numbers[3], numbers[4]);
    }
    due("end of a text", x.end(before + text.length()), before + text.length());
  }

  static int tell(VintageJams x, String text) {
    feed(x, text);
    return x.jam();
  }

  static VintageJams told(String text) {
    VintageJams x = new VintageJams();
    int cars = tell(x, text);
    if (cars < 0) {
      due("jam() of " + text + " (fault " + x.fault(0) + " at " + x.fault(1) + ")", cars, 0);
    }
    return x;
  }

  /** All that lies there, and nothing behind it. */
  static void dueLies(VintageJams x, String call, int... want) {
    due(call + ": about(12)", x.about(12), want.length);
    for (int i = 0; i < want.length; i++) {
      due(call + ": lies(" + i + ")", x.lies(i), want[i]);
    }
    due(call + ": lies(" + want.length + ")", x.lies(want.length), VintageJams.NONE);
  }

  /** Where all are, headings, HOOT, BODY, the year, the SEED, as one text. */
  static String state(VintageJams x) {
    StringBuilder all = new StringBuilder();
    for (int car = 0; car < x.about(0); car++) {
      for (int what = 0; what < 4; what++) {
        all.append(x.car(car, what)).append(' ');
      }
    }
    return all.append(x.about(4)).append(' ').append(x.about(5)).toString();
  }

  static String repeat(String part, int times) {
    StringBuilder all = new StringBuilder();
    for (int i = 0; i < times; i++) {
      all.append(part);
    }
    return all.toString();
  }

  static void finish() {
    System.out.println(right + " answers as due, " + wrong + " not");
    if (wrong != 0) {
      System.exit(1);
    }
  }
}
