/**
 * A laid-down traffic jam: told in a text, aged by years, asked about. The words in capitals and the
 * numbered promises are those of the document DOC.md.
 *
 * <p>All rows are made with the object and used again, so that no call makes anything new.
 */
public final class VintageJams {
  public static final int NONE = -1;

  private static final int NO_PRICE = -1000000000;
  private static final int NO_SUCH = -2;
  private static final int MOST_BYTES = 1600;
  private static final int MOST_CARS = 8;
  private static final int MOST_CELLS = 64;
  private static final int SETS_OF_CARS = 1 << MOST_CARS;
  private static final int HEADINGS = 4;
  private static final int MOST_BODY = 9;
  private static final int LAST_YEAR = 999;
  private static final int FARTHEST_LOOK = 60;
  private static final int LAST_VINTAGE = 30;
  private static final int LAST_QUIET = 99;
  private static final int LAST_ODDS = 4;
  private static final int HUNDRED = 100;
  private static final int BOXES = 3;
  private static final int STATE_LENGTH = 4 * MOST_CARS + 2;

  private final int[] tape = new int[MOST_BYTES];
  private int bytes;
  private final Jam told = new Jam();
  private final Jam draft = new Jam();
  private final Reader reader = new Reader(tape, draft);
  private final Street street = new Street(told);
  /** Where what is only thought of is tried out: the street itself stays as it is. */
  private final Street thought = new Street(told);
  private final Bars bars = new Bars(street);
  private final Walks walks = new Walks(street);
  private final History history = new History(street);
  private final Hearsay hearsay = new Hearsay(told);
  private final Sale market = new Sale();
  private final Row lying = new Row();
  private final int[] found = new int[3];
  private final int[] boxes = new int[BOXES * STATE_LENGTH];
  private final boolean[] boxIsFull = new boolean[BOXES];

  public VintageJams() {
    street.lay();
    history.begin();
  }

  // ---- the text

  public int feed(int a, int b, int c, int d, int e) {
    if (bytes > MOST_BYTES - 20) {
      return NONE;
    }
    feedOne(a);
    feedOne(b);
    feedOne(c);
    feedOne(d);
    feedOne(e);
    return bytes;
  }

  private void feedOne(int number) {
    for (int shift = 24; shift >= 0; shift -= 8) {
      set(tape, bytes, (number >> shift) & 255);
      bytes++;
    }
  }

  public int end(int n) {
    if (n < 0 || n > bytes) {
      return NONE;
    }
    bytes = n;
    return n;
  }

  public int jam() {
    // A FAULT, too, uses up the TAPE: only the JAM and what goes with it stay then.
    int length = bytes;
    bytes = 0;
    if (!reader.reads(length)) {
      return NONE;
    }
    told.copyFrom(draft);
    street.lay();
    history.begin();
    hearsay.forget();
    lying.clear();
    for (int box = 0; box < boxIsFull.length; box++) {
      boxIsFull[box] = false;
    }
    return told.count;
  }

  public int fault(int what) {
    if (what == 0) {
      return reader.fault;
    }
    return what == 1 ? reader.faultPlace : NONE;
  }

  // ---- who is where

  public int car(int car, int what) {
    if (!told.hasCar(car)) {
      return NO_SUCH;
    }
    switch (what) {
      case 0:
        return at(street.cells, car);
      case 1:
        return at(street.headings, car);
      case 2:
        return at(street.hoots, car);
      case 3:
        return at(street.bodies, car);
      case 4:
        return street.whoBars(car);
      case 5:
        return street.whomItBars(car);
      default:
        return NO_SUCH;
    }
  }

  public int spot(int spot) {
    return street.whoIsAt(spot);
  }

  public int worth(int car) {
    return street.isIn(car) ? street.worthAmong(car, street.howMany()) : NO_PRICE;
  }

  // ---- ACTS

  public int year() {
    if (street.year >= LAST_YEAR) {
      return NONE;
    }
    street.soften();
    int broken = street.breakLamps();
    street.year++;
    history.keep();
    return broken;
  }

  public int let(int car) {
    return street.isIn(car) && street.whoBars(car) == 0 ? takeOff(car) : NONE;
  }

  public int tow(int car) {
    return street.isIn(car) ? takeOff(car) : NONE;
  }

  private int takeOff(int car) {
    set(street.cells, car, NONE);
    history.keep();
    return street.howMany();
  }

  public int polish(int car) {
    if (!street.isIn(car) || at(street.bodies, car) >= MOST_BODY) {
      return NONE;
    }
    set(street.bodies, car, at(street.bodies, car) + 1);
    history.keep();
    return at(street.bodies, car);
  }

  public int steer(int car, int heading) {
    if (!street.isIn(car) || !isHeading(heading) || at(street.headings, car) == heading) {
      return NONE;
    }
    set(street.headings, car, heading);
    history.keep();
    return street.whoBars(car);
  }

  public int put(int car, int spot) {
    if (!isOff(car) || !told.hasCell(spot) || street.whoIsAt(spot) != NONE) {
      return NONE;
    }
    set(street.cells, car, spot);
    history.keep();
    return street.whoBars(car);
  }

  public boolean undo() {
    return history.stepBack();
  }

  public boolean redo() {
    return history.stepOn();
  }

  // ---- who bars whom

  public int free() {
    return street.whoIsFree();
  }

  public int order() {
    lying.clear();
    bars.look();
    if (bars.stuckOf(bars.in) != 0) {
      return NONE;
    }
    bars.layOrder(lying);
    return lying.length;
  }

  public int loose() {
    bars.look();
    return Integer.bitCount(bars.in) - Integer.bitCount(bars.stuckOf(bars.in));
  }

  public int ring(int what) {
    bars.look();
    return countOrSet(what, bars.smallestRing());
  }

  public int tows(int what) {
    bars.look();
    return countOrSet(what, bars.fewestTows());
  }

  /** NONE stands for no set at all: the empty set is 0. */
  private static int countOrSet(int what, int set) {
    if (set == NONE) {
      return NONE;
    }
    if (what == 0) {
      return Integer.bitCount(set);
    }
    return what == 1 ? set : NONE;
  }

  public int ahead(int car) {
    if (!street.isIn(car)) {
      return NONE;
    }
    bars.look();
    return bars.allAheadOf(car);
  }

  public int until(int car) {
    if (!street.isIn(car)) {
      return NONE;
    }
    bars.look();
    if ((bars.stuckOf(bars.in) & bit(car)) != 0) {
      return NONE;
    }
    return Integer.bitCount(bars.allAheadOf(car)) + 1;
  }

  public int lines(int spot) {
    if (!told.hasCell(spot)) {
      return NONE;
    }
    int count = 0;
    for (int car = 0; car < MOST_CARS; car++) {
      if (street.hasOnLine(car, spot)) {
        count++;
      }
    }
    return count;
  }

  public int law(int heading) {
    if (!isHeading(heading)) {
      return NONE;
    }
    thought.copyFrom(street);
    for (int car = 0; car < MOST_CARS; car++) {
      set(thought.headings, car, heading);
    }
    return Integer.bitCount(thought.whoIsFree());
  }

  // ---- what would free most

  public int turn(int what) {
    if (what < 0 || what >= found.length || street.howMany() == 0) {
      return NONE;
    }
    thought.copyFrom(street);
    find(NONE, NONE, NONE);
    for (int car = 0; car < MOST_CARS; car++) {
      if (street.isIn(car)) {
        tryTurns(car);
      }
    }
    return at(found, what);
  }

  private void tryTurns(int car) {
    int own = at(street.headings, car);
    for (int heading = 0; heading < HEADINGS; heading++) {
      set(thought.headings, car, heading);
      int count = Integer.bitCount(thought.whoIsFree());
      if (heading != own && count > at(found, 2)) {
        find(car, heading, count);
      }
    }
    set(thought.headings, car, own);
  }

  public int exchange(int what) {
    if (what < 0 || what >= found.length) {
      return NONE;
    }
    thought.copyFrom(street);
    find(NONE, NONE, Integer.bitCount(street.whoIsFree()));
    for (int car = 0; car < MOST_CARS; car++) {
      for (int other = car + 1; other < MOST_CARS; other++) {
        if (street.isIn(car) && street.isIn(other)) {
          tryExchange(car, other);
        }
      }
    }
    return at(found, 0) == NONE ? NONE : at(found, what);
  }

  private void tryExchange(int car, int other) {
    int here = at(street.cells, car);
    int there = at(street.cells, other);
    set(thought.cells, car, there);
    set(thought.cells, other, here);
    int count = Integer.bitCount(thought.whoIsFree());
    if (count > at(found, 2)) {
      find(car, other, count);
    }
    set(thought.cells, car, here);
    set(thought.cells, other, there);
  }

  private void find(int first, int second, int count) {
    set(found, 0, first);
    set(found, 1, second);
    set(found, 2, count);
  }

  public int lot(int car) {
    if (!isOff(car)) {
      return NONE;
    }
    thought.copyFrom(street);
    int best = NONE;
    int most = NONE;
    for (int cell = 0; cell < MOST_CELLS; cell++) {
      if (told.hasCell(cell) && street.whoIsAt(cell) == NONE) {
        set(thought.cells, car, cell);
        int count = Integer.bitCount(thought.whoIsFree());
        if (count > most) {
          best = cell;
          most = count;
        }
      }
    }
    return best;
  }

  // ---- what it is worth, now and by then

  public int dear(int worth) {
    int set = 0;
    int many = street.howMany();
    for (int car = 0; car < MOST_CARS; car++) {
      if (street.isIn(car) && street.worthAmong(car, many) >= worth) {
        set |= bit(car);
      }
    }
    return set;
  }

  public int noise() {
    return street.allHoots();
  }

  public int softer(int car) {
    return street.isIn(car) ? street.softeningAmong(car, street.howMany()) : NONE;
  }

  public int price() {
    return street.priceOfAll();
  }

  public int will(int n) {
    if (!isLook(n)) {
      return NO_PRICE;
    }
    thinkAhead(n);
    return thought.priceOfAll();
  }

  public int hoot(int car, int n) {
    if (!street.isIn(car) || !isLook(n)) {
      return NONE;
    }
    thinkAhead(n);
    return at(thought.hoots, car);
  }

  private void thinkAhead(int n) {
    thought.copyFrom(street);
    for (int i = 0; i < n; i++) {
      thought.passQuietly();
    }
  }

  public int vintage(int what) {
    if (what != 0 && what != 1) {
      return NO_PRICE;
    }
    thought.copyFrom(street);
    int best = 0;
    int most = thought.priceOfAll();
    for (int n = 1; n <= LAST_VINTAGE; n++) {
      thought.passQuietly();
      int price = thought.priceOfAll();
      if (price > most) {
        best = n;
        most = price;
      }
    }
    return what == 0 ? best : most;
  }

  public int ripe(int price) {
    thought.copyFrom(street);
    for (int n = 0; n <= FARTHEST_LOOK; n++) {
      if (thought.priceOfAll() >= price) {
        return n;
      }
      thought.passQuietly();
    }
    return NONE;
  }

  public int quiet() {
    thought.copyFrom(street);
    for (int n = 0; n <= LAST_QUIET; n++) {
      if (thought.allHoots() == 0) {
        return n;
      }
      thought.passQuietly();
    }
    return NONE;
  }

  // ---- ways for walkers

  public int walk(int spot, int other) {
    if (!told.hasCell(spot) || !told.hasCell(other)) {
      return NONE;
    }
    walks.begin();
    walks.startAt(spot);
    walks.spread();
    return at(walks.steps, other);
  }

  public int window(int spot, int car) {
    lying.clear();
    if (!told.hasCell(spot) || !street.isIn(car)) {
      return NONE;
    }
    walks.begin();
    for (int side = 0; side < HEADINGS; side++) {
      walks.startAt(told.beside(at(street.cells, car), side));
    }
    walks.spread();
    walks.layWayFrom(spot, lying);
    return at(walks.steps, spot);
  }

  public int reach(int spot) {
    if (!told.hasCell(spot)) {
      return NONE;
    }
    walks.begin();
    walks.startAt(spot);
    walks.spread();
    return walks.reached;
  }

  // ---- who sells, who would fetch most

  public int sale(int car, int other) {
    lying.clear();
    if (car == other || !street.isIn(car) || !street.isIn(other)) {
      return NONE;
    }
    int many = street.howMany();
    market.open(street.worthAmong(car, many), street.worthAmong(other, many));
    return market.layRests(lying);
  }

  public int heir() {
    int heir = NONE;
    int least = 0;
    for (int car = 0; car < MOST_CARS; car++) {
      if (street.isIn(car)) {
        int price = street.priceWithout(car);
        if (heir == NONE || price < least) {
          heir = car;
          least = price;
        }
      }
    }
    return heir;
  }

  public int finest() {
    int finest = NONE;
    int most = 0;
    int many = street.howMany();
    for (int car = 0; car < MOST_CARS; car++) {
      if (street.isIn(car)) {
        int worth = street.worthAmong(car, many);
        if (finest == NONE || worth > most) {
          finest = car;
          most = worth;
        }
      }
    }
    return finest;
  }

  public int fullest() {
    int fullest = 0;
    int most = 0;
    for (int row = 0; row < told.rows; row++) {
      int count = street.howManyInRow(row);
      if (count > most) {
        fullest = row;
        most = count;
      }
    }
    return fullest;
  }

  public int odds(int car, int n, int part) {
    if (!street.isIn(car) || n < 0 || n > LAST_ODDS || part < 0 || part > 1) {
      return NONE;
    }
    // A fraction in lowest terms stays in them when it is raised to a power, 100 to the 4th is an int.
    int common = commonDivisor(HUNDRED - told.breaks, HUNDRED);
    int whole = part == 0 ? HUNDRED - told.breaks : HUNDRED;
    int base = common > 0 ? whole / common : whole;
    int power = 1;
    for (int i = 0; i < n; i++) {
      power *= base;
    }
    return power;
  }

  private static int commonDivisor(int a, int b) {
    int greater = b;
    int lesser = a;
    for (int i = 0; i < HUNDRED && lesser > 0; i++) {
      int rest = greater % lesser;
      greater = lesser;
      lesser = rest;
    }
    return greater;
  }

  public int lies(int i) {
    return i >= 0 && i < lying.length ? at(lying.numbers, i) : NONE;
  }

  // ---- what is HEARD

  public int heard(int years, int worth, boolean is) {
    return hearsay.tell(years, worth, is);
  }

  public boolean untell(int heard) {
    return hearsay.takeBack(heard);
  }

  public int later(int by) {
    return hearsay.goOn(by);
  }

  public int fits(int k) {
    return hearsay.countFits(k);
  }

  public int sure(int what, int k) {
    if (hearsay.countFits(k) == 0) {
      return NONE;
    }
    if (what == 0) {
      return hearsay.leastFit();
    }
    return what == 1 ? hearsay.greatestFit() : NONE;
  }

  public int ask(int what, int k) {
    if ((what != 0 && what != 1) || hearsay.countFits(k) == 0) {
      return NONE;
    }
    hearsay.findAsk();
    return what == 0 ? hearsay.askYears : hearsay.askLeft;
  }

  // ---- images, and what there is

  public int image(int box) {
    if (box < 0 || box >= boxIsFull.length) {
      return NONE;
    }
    street.save(boxes, box * STATE_LENGTH);
    boxIsFull[box] = true;
    return street.year;
  }

  public int back(int box) {
    if (box < 0 || box >= boxIsFull.length || !boxIsFull[box]) {
      return NONE;
    }
    street.load(boxes, box * STATE_LENGTH);
    history.begin();
    return street.year;
  }

  public int about(int what) {
    switch (what) {
      case 0:
        return told.count;
      case 1:
        return told.columns;
      case 2:
        return told.rows;
      case 3:
        return street.whoIsIn();
      case 4:
        return street.year;
      case 5:
        return street.seed;
      case 6:
        return history.now;
      case 7:
        return history.last - history.now;
      case 8:
        return hearsay.count;
      case 9:
        return hearsay.time;
      case 10:
        return bytes;
      case 11:
        return told.units;
      case 12:
        return lying.length;
      case 13:
        return told.breaks;
      default:
        return NONE;
    }
  }

  private boolean isOff(int car) {
    return told.hasCar(car) && !street.isIn(car);
  }

  private static boolean isHeading(int heading) {
    return heading >= 0 && heading < HEADINGS;
  }

  private static boolean isLook(int n) {
    return n >= 0 && n <= FARTHEST_LOOK;
  }

  // ---- rows that are never left

  private static int at(int[] row, int i) {
    return i >= 0 && i < row.length ? row[i] : 0;
  }

  private static void set(int[] row, int i, int value) {
    if (i >= 0 && i < row.length) {
      row[i] = value;
    }
  }

  private static void copyRow(int[] from, int[] to) {
    for (int i = 0; i < to.length && i < from.length; i++) {
      to[i] = from[i];
    }
  }

  private static int bit(int car) {
    return 1 << car;
  }

  /** What a call lays down to be looked at by its place. */
  private static final class Row {
    static final int LONGEST = 16;

    final int[] numbers = new int[LONGEST];
    int length;

    void clear() {
      length = 0;
    }

    void add(int number) {
      if (length >= 0 && length < numbers.length) {
        numbers[length] = number;
        length++;
      }
    }
  }

  /** The text cut into TOKENS, up to its end or to the first place where there is none. */
  private static final class Tokens {
    // The kinds: signs and words are numbered by their places in SIGNS and in WORDS.
    static final int END = 0;
    static final int BAD = 1;
    static final int NUMBER = 2;
    static final int NAME = 3;

    static final String SIGNS = ";()<>=+-*/%";
    static final int FIRST_SIGN = 4;
    static final int SEMICOLON = 4;
    static final int OPEN = 5;
    static final int CLOSE = 6;
    static final int LESS = 7;
    static final int MORE = 8;
    static final int EQUAL = 9;
    static final int PLUS = 10;
    static final int MINUS = 11;
    static final int TIMES = 12;
    static final int OVER = 13;
    static final int REST = 14;

    static final String WORDS =
        "street  by      car     at      heads   hoots   body    softens worth   breaks  draw    or      and     not     hoot    bodied  many    lane    year    ";
    static final int WORD_WIDTH = 8;
    static final int FIRST_WORD = 15;
    static final int STREET = 15;
    static final int BY = 16;
    static final int CAR = 17;
    static final int AT = 18;
    static final int HEADS = 19;
    static final int HOOTS = 20;
    static final int BODY = 21;
    static final int SOFTENS = 22;
    static final int WORTH = 23;
    static final int BREAKS = 24;
    static final int DRAW = 25;
    static final int OR = 26;
    static final int AND = 27;
    static final int NOT = 28;
    static final int HOOT = 29;
    static final int BODIED = 30;
    static final int MANY = 31;
    static final int LANE = 32;
    static final int YEAR = 33;

    static final int LONGEST_NUMBER = 4;

    final int[] text;
    final int[] kinds = new int[MOST_BYTES + 1];
    final int[] places = new int[MOST_BYTES + 1];
    int textLength;
    int count;

    Tokens(int[] text) {
      this.text = text;
    }

    void cut(int length) {
      textLength = length;
      count = 0;
      int place = 0;
      int kind = NAME;
      for (int i = 0; i < kinds.length && kind != END && kind != BAD; i++) {
        place = behindBlanks(place);
        int behind = behindToken(place);
        kind = kindOf(place, behind);
        set(kinds, i, kind);
        set(places, i, place);
        count = i + 1;
        place = behind;
      }
    }

    private int behindBlanks(int from) {
      int place = from;
      while (place < textLength && (byteAt(place) == 32 || byteAt(place) == 10)) {
        place++;
      }
      return place;
    }

    private int behindToken(int from) {
      int place = from;
      if (isLetter(from)) {
        while (place < textLength && isLetter(place)) {
          place++;
        }
        return place;
      }
      if (isDigit(from)) {
        while (place < textLength && isDigit(place)) {
          place++;
        }
        return place;
      }
      return from + 1;
    }

    private int kindOf(int from, int behind) {
      if (from >= textLength) {
        return END;
      }
      if (isLetter(from)) {
        return behind - from > WORD_WIDTH ? BAD : kindOfWord(from, behind);
      }
      if (isDigit(from)) {
        return behind - from > LONGEST_NUMBER || isLetter(behind) ? BAD : NUMBER;
      }
      int sign = SIGNS.indexOf((char) byteAt(from));
      return sign < 0 ? BAD : FIRST_SIGN + sign;
    }

    private int kindOfWord(int from, int behind) {
      for (int word = 0; (word + 1) * WORD_WIDTH <= WORDS.length(); word++) {
        if (isWord(word, from, behind)) {
          return FIRST_WORD + word;
        }
      }
      return NAME;
    }

    private boolean isWord(int word, int from, int behind) {
      for (int i = 0; i < WORD_WIDTH; i++) {
        int place = word * WORD_WIDTH + i;
        int due = place >= 0 && place < WORDS.length() ? WORDS.charAt(place) : 0;
        int is = from + i < behind ? byteAt(from + i) : ' ';
        if (is != due) {
          return false;
        }
      }
      return true;
    }

    int numberFrom(int from) {
      int number = 0;
      for (int i = 0; i < LONGEST_NUMBER; i++) {
        int digit = byteAt(from + i) - '0';
        if (digit < 0 || digit > 9) {
          return number;
        }
        number = number * 10 + digit;
      }
      return number;
    }

    /** The word as one number, so that two NAMES can be held against each other. */
    long wordFrom(int from) {
      long word = 0;
      for (int i = 0; i < WORD_WIDTH && isLetter(from + i); i++) {
        word = word * 32 + byteAt(from + i) - 'a' + 1;
      }
      return word;
    }

    private boolean isLetter(int place) {
      int sign = byteAt(place);
      return sign >= 'a' && sign <= 'z';
    }

    private boolean isDigit(int place) {
      int sign = byteAt(place);
      return sign >= '0' && sign <= '9';
    }

    /** Bytes of an earlier, longer text may stand behind the end: they don't count. */
    private int byteAt(int place) {
      return place >= 0 && place < textLength && place < text.length ? text[place] : 0;
    }
  }

  /** Reads the text, by its grammar, into a draft: what was told before stays if there is a FAULT. */
  private static final class Reader {
    static final int NO_TOKEN = 1;
    static final int CANT_STAND = 2;
    static final int TOLD_ALREADY = 3;
    static final int CANT_BE = 4;
    static final int RELATIONS = 2;
    static final int UNITS = 5;
    static final int MOST_UNITS = 60;
    static final int MOST_UNITS_IN_ONE = 30;
    static final int MOST_AROUND = 6;
    static final int LONGEST_STREET = 8;
    static final int MOST_HOOT = 99;
    static final int LAST_DRAW = 999;

    final Tokens tokens;
    final Jam draft;
    final long[] names = new long[MOST_CARS];
    Formula formula;
    int index;
    int kind;
    int place;
    int number;
    int numberPlace;
    int toldSorts;
    int unitsInOne;
    int fault;
    int faultPlace = NONE;

    Reader(int[] text, Jam draft) {
      this.tokens = new Tokens(text);
      this.draft = draft;
      this.formula = draft.worth;
    }

    boolean reads(int length) {
      tokens.cut(length);
      draft.clear();
      toldSorts = 0;
      fault = 0;
      faultPlace = NONE;
      index = NONE;
      advance();
      for (int i = 0; i < MOST_BYTES && kind != Tokens.END; i++) {
        if (!line()) {
          return false;
        }
      }
      return true;
    }

    private boolean line() {
      switch (kind) {
        case Tokens.STREET:
          return toldSorts == 0 ? streetLine() : refuse();
        case Tokens.CAR:
          return draft.count < MOST_CARS ? carLine() : refuse();
        case Tokens.SOFTENS:
          return formulaLine(draft.softens);
        case Tokens.WORTH:
          return formulaLine(draft.worth);
        case Tokens.BREAKS:
          return breaksLine();
        case Tokens.DRAW:
          return drawLine();
        default:
          return refuse();
      }
    }

    private boolean streetLine() {
      takeSort();
      if (!takeNumber(1, LONGEST_STREET)) {
        return false;
      }
      draft.columns = number;
      if (!take(Tokens.BY) || !takeNumber(1, LONGEST_STREET)) {
        return false;
      }
      draft.rows = number;
      return take(Tokens.SEMICOLON);
    }

    private boolean carLine() {
      int car = draft.count;
      takeSort();
      if (!takeName(car) || !take(Tokens.AT) || !takeCell(car)) {
        return false;
      }
      if (!take(Tokens.HEADS) || !takeNumber(0, HEADINGS - 1)) {
        return false;
      }
      set(draft.headings, car, number);
      if (!take(Tokens.HOOTS) || !takeNumber(0, MOST_HOOT)) {
        return false;
      }
      set(draft.hoots, car, number);
      set(draft.bodies, car, 1);
      if (kind == Tokens.BODY) {
        advance();
        if (!takeNumber(0, MOST_BODY)) {
          return false;
        }
        set(draft.bodies, car, number);
      }
      draft.count = car + 1;
      return take(Tokens.SEMICOLON);
    }

    private boolean takeName(int car) {
      if (kind != Tokens.NAME) {
        return refuse();
      }
      long name = tokens.wordFrom(place);
      for (int other = 0; other < car && other < names.length; other++) {
        if (names[other] == name) {
          return fail(TOLD_ALREADY, place);
        }
      }
      if (car >= 0 && car < names.length) {
        names[car] = name;
      }
      advance();
      return true;
    }

    private boolean takeCell(int car) {
      if (!takeNumber(0, draft.columns - 1)) {
        return false;
      }
      int column = number;
      if (!takeNumber(0, draft.rows - 1)) {
        return false;
      }
      int cell = number * draft.columns + column;
      for (int other = 0; other < car; other++) {
        if (at(draft.cells, other) == cell) {
          return fail(TOLD_ALREADY, numberPlace);
        }
      }
      set(draft.cells, car, cell);
      return true;
    }

    private boolean breaksLine() {
      if (!takeOnce() || !takeNumber(0, HUNDRED)) {
        return false;
      }
      draft.breaks = number;
      return take(Tokens.SEMICOLON);
    }

    private boolean drawLine() {
      if (!takeOnce() || !takeNumber(0, LAST_DRAW)) {
        return false;
      }
      draft.draw = number;
      return take(Tokens.SEMICOLON);
    }

    private boolean formulaLine(Formula target) {
      if (!takeOnce()) {
        return false;
      }
      formula = target;
      unitsInOne = 0;
      return part(0, 0) && take(Tokens.SEMICOLON);
    }

    /** e, both, one, sum, term are levels 0 to 4 of one rule: parts of the next level, signs between. */
    private boolean part(int level, int around) {
      if (level >= UNITS) {
        return unit(around);
      }
      if (level == RELATIONS && kind == Tokens.NOT) {
        return negation(around);
      }
      if (!part(level + 1, around)) {
        return false;
      }
      for (int i = 0; i < MOST_UNITS && levelOf(kind) == level; i++) {
        int sign = kind;
        advance();
        if (!part(level + 1, around)) {
          return false;
        }
        formula.add(-sign);
        if (level == RELATIONS) {
          return true;
        }
      }
      return true;
    }

    private boolean negation(int around) {
      if (around > MOST_AROUND) {
        return refuse();
      }
      advance();
      if (!part(RELATIONS, around + 1)) {
        return false;
      }
      formula.add(-Tokens.NOT);
      return true;
    }

    private boolean unit(int around) {
      if (!startsUnit(around)) {
        return refuse();
      }
      boolean bracket = kind == Tokens.OPEN;
      if (kind == Tokens.NUMBER) {
        formula.add(tokens.numberFrom(place));
      } else if (!bracket) {
        formula.add(-kind);
      }
      unitsInOne++;
      draft.units++;
      advance();
      return !bracket || (part(0, around + 1) && take(Tokens.CLOSE));
    }

    private boolean startsUnit(int around) {
      if (unitsInOne >= MOST_UNITS_IN_ONE || draft.units >= MOST_UNITS) {
        return false;
      }
      if (kind == Tokens.OPEN) {
        return around <= MOST_AROUND;
      }
      return kind == Tokens.NUMBER || (kind >= Tokens.HOOT && kind <= Tokens.YEAR);
    }

    private static int levelOf(int kind) {
      switch (kind) {
        case Tokens.OR:
          return 0;
        case Tokens.AND:
          return 1;
        case Tokens.LESS:
        case Tokens.MORE:
        case Tokens.EQUAL:
          return RELATIONS;
        case Tokens.PLUS:
        case Tokens.MINUS:
          return 3;
        case Tokens.TIMES:
        case Tokens.OVER:
        case Tokens.REST:
          return 4;
        default:
          return NONE;
      }
    }

    private boolean takeOnce() {
      if ((toldSorts & sortOfLine()) != 0) {
        return refuse();
      }
      takeSort();
      return true;
    }

    private void takeSort() {
      toldSorts |= sortOfLine();
      advance();
    }

    private int sortOfLine() {
      return 1 << (kind - Tokens.FIRST_WORD);
    }

    private boolean take(int due) {
      if (kind != due) {
        return refuse();
      }
      advance();
      return true;
    }

    private boolean takeNumber(int least, int most) {
      if (kind != Tokens.NUMBER) {
        return refuse();
      }
      number = tokens.numberFrom(place);
      numberPlace = place;
      if (number < least || number > most) {
        return fail(CANT_BE, place);
      }
      advance();
      return true;
    }

    private void advance() {
      index++;
      boolean isThere = index >= 0 && index < tokens.count && index < tokens.kinds.length;
      kind = isThere ? tokens.kinds[index] : Tokens.END;
      place = isThere && index < tokens.places.length ? tokens.places[index] : tokens.textLength;
    }

    private boolean refuse() {
      fault = kind == Tokens.BAD ? NO_TOKEN : CANT_STAND;
      faultPlace = place;
      return false;
    }

    private boolean fail(int which, int where) {
      fault = which;
      faultPlace = where;
      return false;
    }
  }

  /** An e, as numbers (0 and up) and, below 0, kinds of TOKENS, operands ahead of what joins them. */
  private static final class Formula {
    /** 30 units, 29 signs between, 7 nots at most around each unit. */
    static final int LONGEST = 300;
    static final int MOST_OPERANDS = 32;

    final int[] codes = new int[LONGEST];
    final int[] operands = new int[MOST_OPERANDS];
    int length;

    void clear() {
      length = 0;
    }

    boolean isTold() {
      return length > 0;
    }

    void add(int code) {
      if (length >= 0 && length < codes.length) {
        codes[length] = code;
        length++;
      }
    }

    void copyFrom(Formula other) {
      length = other.length;
      copyRow(other.codes, codes);
    }

    int valueBy(int hoot, int bodied, int many, int lane, int year) {
      int top = NONE;
      for (int i = 0; i < length && i < codes.length; i++) {
        int code = codes[i];
        if (code >= 0) {
          top++;
          set(operands, top, code);
        } else if (code == -Tokens.NOT) {
          set(operands, top, at(operands, top) == 0 ? 1 : 0);
        } else if (code <= -Tokens.HOOT) {
          top++;
          set(operands, top, variable(-code, hoot, bodied, many, lane, year));
        } else {
          top--;
          set(operands, top, joined(-code, at(operands, top), at(operands, top + 1)));
        }
      }
      return at(operands, 0);
    }

    private static int variable(int kind, int hoot, int bodied, int many, int lane, int year) {
      switch (kind) {
        case Tokens.HOOT:
          return hoot;
        case Tokens.BODIED:
          return bodied;
        case Tokens.MANY:
          return many;
        case Tokens.LANE:
          return lane;
        default:
          return year;
      }
    }

    private static int joined(int kind, int a, int b) {
      switch (kind) {
        case Tokens.OR:
          return a != 0 || b != 0 ? 1 : 0;
        case Tokens.AND:
          return a != 0 && b != 0 ? 1 : 0;
        case Tokens.LESS:
          return a < b ? 1 : 0;
        case Tokens.MORE:
          return a > b ? 1 : 0;
        case Tokens.EQUAL:
          return a == b ? 1 : 0;
        case Tokens.PLUS:
          return a + b;
        case Tokens.MINUS:
          return a - b;
        case Tokens.TIMES:
          return a * b;
        case Tokens.OVER:
          return b == 0 ? 0 : a / b;
        default:
          return b == 0 ? 0 : a % b;
      }
    }
  }

  /** What a text told. */
  private static final class Jam {
    static final int MOST_WORTH = 9999;

    int columns;
    int rows;
    int count;
    int breaks;
    int draw;
    int units;
    final int[] cells = new int[MOST_CARS];
    final int[] headings = new int[MOST_CARS];
    final int[] hoots = new int[MOST_CARS];
    final int[] bodies = new int[MOST_CARS];
    final Formula softens = new Formula();
    final Formula worth = new Formula();

    Jam() {
      clear();
    }

    void clear() {
      columns = 6;
      rows = 6;
      count = 0;
      breaks = 0;
      draw = 0;
      units = 0;
      softens.clear();
      worth.clear();
    }

    void copyFrom(Jam other) {
      columns = other.columns;
      rows = other.rows;
      count = other.count;
      breaks = other.breaks;
      draw = other.draw;
      units = other.units;
      copyRow(other.cells, cells);
      copyRow(other.headings, headings);
      copyRow(other.hoots, hoots);
      copyRow(other.bodies, bodies);
      softens.copyFrom(other.softens);
      worth.copyFrom(other.worth);
    }

    boolean hasCar(int car) {
      return car >= 0 && car < count;
    }

    boolean hasCell(int cell) {
      return cell >= 0 && cell < columns * rows;
    }

    int columnOf(int cell) {
      return columns > 0 ? cell % columns : 0;
    }

    int rowOf(int cell) {
      return columns > 0 ? cell / columns : 0;
    }

    boolean isOnLine(int from, int heading, int cell) {
      int right = columnOf(cell) - columnOf(from);
      int down = rowOf(cell) - rowOf(from);
      switch (heading) {
        case 0:
          return right == 0 && down < 0;
        case 1:
          return down == 0 && right > 0;
        case 2:
          return right == 0 && down > 0;
        default:
          return down == 0 && right < 0;
      }
    }

    /** Sides 0 to 3 go from the least CELL to the greatest; NONE beyond the rim. */
    int beside(int cell, int side) {
      switch (side) {
        case 0:
          return rowOf(cell) > 0 ? cell - columns : NONE;
        case 1:
          return columnOf(cell) > 0 ? cell - 1 : NONE;
        case 2:
          return columnOf(cell) < columns - 1 ? cell + 1 : NONE;
        default:
          return rowOf(cell) < rows - 1 ? cell + columns : NONE;
      }
    }

    int worthBy(int hoot, int bodied, int many, int lane, int year) {
      int value =
          worth.isTold() ? worth.valueBy(hoot, bodied, many, lane, year) : bodied * year - hoot;
      return Math.max(-MOST_WORTH, Math.min(MOST_WORTH, value));
    }

    int softeningBy(int hoot, int bodied, int many, int lane, int year) {
      int value = softens.isTold() ? softens.valueBy(hoot, bodied, many, lane, year) : 1;
      return Math.max(0, Math.min(hoot, value));
    }
  }

  /** The JAM as it is in some year. */
  private static final class Street {
    final Jam told;
    final int[] cells = new int[MOST_CARS];
    final int[] headings = new int[MOST_CARS];
    final int[] hoots = new int[MOST_CARS];
    final int[] bodies = new int[MOST_CARS];
    int year;
    int seed;

    Street(Jam told) {
      this.told = told;
    }

    void lay() {
      copyRow(told.cells, cells);
      copyRow(told.headings, headings);
      copyRow(told.hoots, hoots);
      copyRow(told.bodies, bodies);
      year = 0;
      seed = told.draw;
    }

    void copyFrom(Street other) {
      copyRow(other.cells, cells);
      copyRow(other.headings, headings);
      copyRow(other.hoots, hoots);
      copyRow(other.bodies, bodies);
      year = other.year;
      seed = other.seed;
    }

    void save(int[] to, int from) {
      for (int car = 0; car < MOST_CARS; car++) {
        int place = from + 4 * car;
        set(to, place, at(cells, car));
        set(to, place + 1, at(headings, car));
        set(to, place + 2, at(hoots, car));
        set(to, place + 3, at(bodies, car));
      }
      set(to, from + 4 * MOST_CARS, year);
      set(to, from + 4 * MOST_CARS + 1, seed);
    }

    void load(int[] kept, int from) {
      for (int car = 0; car < MOST_CARS; car++) {
        int place = from + 4 * car;
        set(cells, car, at(kept, place));
        set(headings, car, at(kept, place + 1));
        set(hoots, car, at(kept, place + 2));
        set(bodies, car, at(kept, place + 3));
      }
      year = at(kept, from + 4 * MOST_CARS);
      seed = at(kept, from + 4 * MOST_CARS + 1);
    }

    boolean isIn(int car) {
      return told.hasCar(car) && at(cells, car) != NONE;
    }

    int whoIsIn() {
      int set = 0;
      for (int car = 0; car < MOST_CARS; car++) {
        if (isIn(car)) {
          set |= bit(car);
        }
      }
      return set;
    }

    int howMany() {
      return Integer.bitCount(whoIsIn());
    }

    int whoIsAt(int cell) {
      for (int car = 0; car < MOST_CARS; car++) {
        if (isIn(car) && at(cells, car) == cell) {
          return car;
        }
      }
      return NONE;
    }

    int howManyInRow(int row) {
      int count = 0;
      for (int car = 0; car < MOST_CARS; car++) {
        if (isIn(car) && told.rowOf(at(cells, car)) == row) {
          count++;
        }
      }
      return count;
    }

    boolean hasOnLine(int car, int cell) {
      return isIn(car) && told.isOnLine(at(cells, car), at(headings, car), cell);
    }

    int whoBars(int car) {
      int set = 0;
      for (int other = 0; other < MOST_CARS; other++) {
        if (isIn(other) && hasOnLine(car, at(cells, other))) {
          set |= bit(other);
        }
      }
      return set;
    }

    int whomItBars(int car) {
      int set = 0;
      for (int other = 0; other < MOST_CARS; other++) {
        if (isIn(car) && hasOnLine(other, at(cells, car))) {
          set |= bit(other);
        }
      }
      return set;
    }

    int whoIsFree() {
      int set = 0;
      for (int car = 0; car < MOST_CARS; car++) {
        if (isIn(car) && whoBars(car) == 0) {
          set |= bit(car);
        }
      }
      return set;
    }

    int worthAmong(int car, int many) {
      int lane = told.rowOf(at(cells, car));
      return told.worthBy(at(hoots, car), at(bodies, car), many, lane, year);
    }

    int softeningAmong(int car, int many) {
      int lane = told.rowOf(at(cells, car));
      return told.softeningBy(at(hoots, car), at(bodies, car), many, lane, year);
    }

    int priceOfAll() {
      int price = 0;
      int many = howMany();
      for (int car = 0; car < MOST_CARS; car++) {
        if (isIn(car)) {
          price += worthAmong(car, many);
        }
      }
      return price;
    }

    /** The others may be worth more or less, as they are one less then. */
    int priceWithout(int gone) {
      int price = 0;
      int many = howMany() - 1;
      for (int car = 0; car < MOST_CARS; car++) {
        if (car != gone && isIn(car)) {
          price += worthAmong(car, many);
        }
      }
      return price;
    }

    int allHoots() {
      int all = 0;
      for (int car = 0; car < MOST_CARS; car++) {
        if (isIn(car)) {
          all += at(hoots, car);
        }
      }
      return all;
    }

    /** No CAR's softening asks for another one's HOOT, so they can go one behind the other. */
    void soften() {
      int many = howMany();
      for (int car = 0; car < MOST_CARS; car++) {
        if (isIn(car)) {
          set(hoots, car, at(hoots, car) - softeningAmong(car, many));
        }
      }
    }

    int breakLamps() {
      int broken = 0;
      for (int car = 0; car < MOST_CARS; car++) {
        if (isIn(car)) {
          seed = (seed * 137 + 71) % 1000;
          if (seed % HUNDRED < told.breaks) {
            broken |= bit(car);
            set(bodies, car, Math.max(0, at(bodies, car) - 1));
          }
        }
      }
      return broken;
    }

    /** A YEAR as it is thought ahead: no lamp breaks. */
    void passQuietly() {
      soften();
      year++;
    }
  }

  /** Who bars whom, as sets, looked at once for questions about many sets of CARS. */
  private static final class Bars {
    final Street street;
    final int[] barring = new int[MOST_CARS];
    int in;

    Bars(Street street) {
      this.street = street;
    }

    void look() {
      in = street.whoIsIn();
      for (int car = 0; car < MOST_CARS; car++) {
        set(barring, car, street.whoBars(car));
      }
    }

    private boolean isFreeAmong(int car, int set) {
      return (set & bit(car)) != 0 && (at(barring, car) & set) == 0;
    }

    /** Whom of a set, were only they IN, no letting go could ever free. */
    int stuckOf(int set) {
      int left = set;
      for (int round = 0; round < MOST_CARS; round++) {
        for (int car = 0; car < MOST_CARS; car++) {
          if (isFreeAmong(car, left)) {
            left &= ~bit(car);
          }
        }
      }
      return left;
    }

    /** Who is let go bars nobody any more, so the least free one can always be the next. */
    void layOrder(Row lying) {
      int left = in;
      for (int round = 0; round < MOST_CARS; round++) {
        int next = firstFreeAmong(left);
        if (next != NONE) {
          left &= ~bit(next);
          lying.add(next);
        }
      }
    }

    private int firstFreeAmong(int set) {
      for (int car = 0; car < MOST_CARS; car++) {
        if (isFreeAmong(car, set)) {
          return car;
        }
      }
      return NONE;
    }

    private boolean isAmongIn(int set) {
      return (set & ~in) == 0;
    }

    int smallestRing() {
      int best = NONE;
      for (int set = 1; set < SETS_OF_CARS; set++) {
        if (isAmongIn(set) && firstFreeAmong(set) == NONE && isSmaller(set, best)) {
          best = set;
        }
      }
      return best;
    }

    int fewestTows() {
      int best = NONE;
      for (int set = 0; set < SETS_OF_CARS; set++) {
        if (isAmongIn(set) && isSmaller(set, best) && stuckOf(in & ~set) == 0) {
          best = set;
        }
      }
      return best;
    }

    private static boolean isSmaller(int set, int best) {
      return best == NONE || Integer.bitCount(set) < Integer.bitCount(best);
    }

    int allAheadOf(int car) {
      int set = at(barring, car);
      for (int round = 0; round < MOST_CARS; round++) {
        for (int other = 0; other < MOST_CARS; other++) {
          if ((set & bit(other)) != 0) {
            set |= at(barring, other);
          }
        }
      }
      return set;
    }
  }

  /** How many steps each CELL is away from where the walking starts. */
  private static final class Walks {
    final Street street;
    final int[] steps = new int[MOST_CELLS];
    final int[] queue = new int[MOST_CELLS];
    int reached;

    Walks(Street street) {
      this.street = street;
    }

    void begin() {
      reached = 0;
      for (int cell = 0; cell < steps.length; cell++) {
        steps[cell] = NONE;
      }
    }

    void startAt(int cell) {
      come(cell, 0);
    }

    private void come(int cell, int step) {
      if (street.told.hasCell(cell) && street.whoIsAt(cell) == NONE && at(steps, cell) == NONE) {
        set(steps, cell, step);
        set(queue, reached, cell);
        reached++;
      }
    }

    void spread() {
      for (int i = 0; i < reached && i < queue.length; i++) {
        int cell = queue[i];
        for (int side = 0; side < HEADINGS; side++) {
          come(street.told.beside(cell, side), at(steps, cell) + 1);
        }
      }
    }

    /** At each CELL the least one that is nearer: so the way is the first of the shortest. */
    void layWayFrom(int spot, Row lying) {
      int cell = at(steps, spot) == NONE ? NONE : spot;
      for (int i = 0; i < Row.LONGEST && cell != NONE; i++) {
        lying.add(cell);
        cell = nearer(cell);
      }
    }

    private int nearer(int cell) {
      int due = at(steps, cell) - 1;
      for (int side = 0; side < HEADINGS && due >= 0; side++) {
        int next = street.told.beside(cell, side);
        if (next != NONE && at(steps, next) == due) {
          return next;
        }
      }
      return NONE;
    }
  }

  /** The ACTS, as the states between them. */
  private static final class History {
    static final int MOST = 40;

    final Street street;
    final int[] states = new int[(MOST + 1) * STATE_LENGTH];
    int now;
    int last;

    History(Street street) {
      this.street = street;
    }

    void begin() {
      now = 0;
      last = 0;
      street.save(states, 0);
    }

    void keep() {
      if (now >= MOST) {
        dropOldest();
      }
      now++;
      last = now;
      street.save(states, now * STATE_LENGTH);
    }

    private void dropOldest() {
      for (int i = 0; i + STATE_LENGTH < states.length; i++) {
        states[i] = states[i + STATE_LENGTH];
      }
      now--;
    }

    boolean stepBack() {
      if (now <= 0) {
        return false;
      }
      now--;
      street.load(states, now * STATE_LENGTH);
      return true;
    }

    boolean stepOn() {
      if (now >= last) {
        return false;
      }
      now++;
      street.load(states, now * STATE_LENGTH);
      return true;
    }
  }

  /** Two owners who ask a price each. */
  private static final class Sale {
    static final int PRICES = 10;

    int worth;
    int otherWorth;

    void open(int first, int second) {
      worth = first;
      otherWorth = second;
    }

    private int gain(int asked, int otherAsked) {
      int above = worth - asked;
      return above >= 0 && above >= otherWorth - otherAsked ? asked : 0;
    }

    private int otherGain(int asked, int otherAsked) {
      int above = otherWorth - otherAsked;
      return above >= 0 && above > worth - asked ? otherAsked : 0;
    }

    private boolean rests(int asked, int otherAsked) {
      int gain = gain(asked, otherAsked);
      int otherGain = otherGain(asked, otherAsked);
      for (int price = 0; price < PRICES; price++) {
        if (gain(price, otherAsked) > gain || otherGain(asked, price) > otherGain) {
          return false;
        }
      }
      return true;
    }

    int layRests(Row lying) {
      int count = 0;
      for (int asked = 0; asked < PRICES; asked++) {
        for (int otherAsked = 0; otherAsked < PRICES; otherAsked++) {
          if (rests(asked, otherAsked)) {
            if (count == 0) {
              lying.add(asked);
              lying.add(otherAsked);
            }
            count++;
          }
        }
      }
      return count;
    }
  }

  /** What is HEARD of the last CAR, whose HOOT at first is not known, and when it was TOLD and UNTOLD. */
  private static final class Hearsay {
    static final int MOST = 30;
    static final int LAST_TIME = 100000;
    static final int LONGEST_STEP = 1000;
    static final int YEARS = 21;
    static final int HOOTS = 100;

    final Jam told;
    final int[] years = new int[MOST];
    final int[] worths = new int[MOST];
    final boolean[] was = new boolean[MOST];
    final int[] toldAt = new int[MOST];
    final int[] untoldAt = new int[MOST];
    int count;
    int time;
    /** WORTH behind each number of YEARS by each HOOT: only when somebody asks, once for a JAM. */
    final int[] table = new int[YEARS * HOOTS];
    boolean tableIsMade;
    final int[] fitting = new int[HOOTS];
    int fitCount;
    int askYears;
    int askLeft;

    Hearsay(Jam told) {
      this.told = told;
    }

    void forget() {
      count = 0;
      tableIsMade = false;
    }

    int tell(int behind, int worth, boolean is) {
      boolean canBe = behind >= 0 && behind < YEARS;
      boolean isWorth = worth >= -Jam.MOST_WORTH && worth <= Jam.MOST_WORTH;
      if (!canBe || !isWorth || told.count == 0 || count < 0 || count >= was.length) {
        return NONE;
      }
      set(years, count, behind);
      set(worths, count, worth);
      was[count] = is;
      set(toldAt, count, time);
      set(untoldAt, count, NONE);
      count++;
      return count - 1;
    }

    boolean takeBack(int which) {
      if (which < 0 || which >= count || at(untoldAt, which) != NONE) {
        return false;
      }
      set(untoldAt, which, time);
      return true;
    }

    int goOn(int by) {
      if (by < 0 || by > LONGEST_STEP || time + by > LAST_TIME) {
        return NONE;
      }
      time += by;
      return time;
    }

    private boolean countsAt(int which, int k) {
      int end = at(untoldAt, which);
      return at(toldAt, which) <= k && (end == NONE || end > k);
    }

    int countFits(int k) {
      fitCount = 0;
      if (told.count == 0) {
        return 0;
      }
      makeTable();
      for (int hoot = 0; hoot < HOOTS; hoot++) {
        if (fitsAll(hoot, k)) {
          set(fitting, fitCount, hoot);
          fitCount++;
        }
      }
      return fitCount;
    }

    private boolean fitsAll(int hoot, int k) {
      for (int i = 0; i < count && i < was.length; i++) {
        boolean is = worthBehind(at(years, i), hoot) >= at(worths, i);
        if (is != was[i] && countsAt(i, k)) {
          return false;
        }
      }
      return true;
    }

    private int worthBehind(int behind, int hoot) {
      return at(table, behind * HOOTS + hoot);
    }

    private void makeTable() {
      for (int hoot = 0; hoot < HOOTS && !tableIsMade; hoot++) {
        tabulate(hoot);
      }
      tableIsMade = true;
    }

    private void tabulate(int first) {
      int car = told.count - 1;
      int body = at(told.bodies, car);
      int lane = told.rowOf(at(told.cells, car));
      int hoot = first;
      for (int year = 0; year < YEARS; year++) {
        set(table, year * HOOTS + first, told.worthBy(hoot, body, told.count, lane, year));
        hoot -= told.softeningBy(hoot, body, told.count, lane, year);
      }
    }

    int leastFit() {
      return at(fitting, 0);
    }

    int greatestFit() {
      return at(fitting, fitCount - 1);
    }

    void findAsk() {
      askYears = 0;
      askLeft = HOOTS + 1;
      for (int behind = 0; behind < YEARS; behind++) {
        int left = mostAlike(behind);
        if (left < askLeft) {
          askYears = behind;
          askLeft = left;
        }
      }
    }

    /** How many FITS one answer leaves at the most; looks no further once it is no better. */
    private int mostAlike(int behind) {
      int most = 0;
      for (int i = 0; i < fitCount && most < askLeft; i++) {
        int worth = worthBehind(behind, at(fitting, i));
        int alike = 0;
        for (int j = i; j < fitCount; j++) {
          if (worthBehind(behind, at(fitting, j)) == worth) {
            alike++;
          }
        }
        most = Math.max(most, alike);
      }
      return most;
    }
  }
}
