import java.util.Arrays;

/** Lists of souls by the age that they say, and what can be told of them. */
public final class NoughtFive {
  public static final int BAD = -1, NOT = -2, FULL = -3, BIG = -4, STATE = -5, VOID = -2000000000;

  private static final int NOTHING_THERE = -11, OTHER_KIND = -12, NO_PLACE = -13, SIZE_BELOW_0 = -14;

  private static final int AGES = 100, FIGURES = 10;
  private static final int MOST_LISTS = 8, MOST_SAID = 9999, LAST_YEAR = 9999, MOST_SIGNED = 1000;
  private static final int MOST_BYTES = 120, MOST_TEXTS = 6, FIRST_FAULT = -100;
  private static final int MOST_TIMES = 50, MOST_PEOPLE = 2000, MOST_MENDED = 50;
  private static final int LEAST_BY = 2, MOST_BY = 20;
  private static final int MOST_IN_LAND = 400, DRAWS = 100, MOST_SORT = 3;
  private static final long MILLION = 1000000;
  private static final int MOST_PAIRS = 60, MOST_YEARS = 60, MOST_WIDE = 10;
  private static final int STAYS = 0, SHORT = 1, TRUE = 2, LONG = 3;
  private static final int MOST_CHANGES = 40, CHANGE_SIZE = 4;
  private static final int MOST_SAYINGS = 50, KINDS = 8, TRACED = 24;
  private static final int SHELVES = 6, MOST_ELEMENTS = 60;

  // What a SHELF holds, where it is no sort of a ROW (0 .. 4).
  private static final int NOTHING = -1, A_SAYING = 5;
  private static final int BYTES = 0, SHORTS = 1, INTS = 2, LONGS = 3, BOOLEANS = 4;

  // Places of a LIST's row behind its AGES.
  private static final int YEAR = 100, SIGNED = 101, LIST_SIZE = 102;

  // Places of how many there are: the numbers that count() goes by.
  private static final int LISTS = 0, MEASURES = 1, LAWS = 2, TAPE = 3, PAIRS = 4, UNDOABLE = 5,
      SAYINGS = 6, RAN = 7;

  private final int[] many = new int[RAN];
  private final int[][] lists = new int[MOST_LISTS][LIST_SIZE];
  private final byte[] tape = new byte[MOST_BYTES];
  private final Text[] measures = new Text[MOST_TEXTS];
  private final Text[] laws = new Text[MOST_TEXTS];
  private final int[][] pairs = new int[MOST_PAIRS][3];
  private int lineAge = 0;
  // A change: LIST, place in its row, what was there, what became of it.
  private final int[] changes = new int[MOST_CHANGES * CHANGE_SIZE];
  private int redoable = 0;
  private final Saying[] kept = new Saying[MOST_SAYINGS];
  // THE TRACE: how many bodies ran, then the first ones.
  private final int[] ran = new int[TRACED + 1];
  private final int[] shelfSort = new int[SHELVES];
  // How many elements its ROW has, or the number of its SAYING.
  private final int[] shelfSize = new int[SHELVES];
  private final long[][] shelfRow = new long[SHELVES][MOST_ELEMENTS];
  // The z of the draws.
  private int drawState = 0;
  // Rows to work in, made once so that no call makes any.
  private final int[] work = new int[AGES];
  private final int[] ones = new int[FIGURES];
  private final int[] others = new int[FIGURES];

  public NoughtFive() {
    int[] stack = new int[MOST_BYTES];
    for (int i = 0; i < MOST_TEXTS; i++) {
      measures[i] = new Text(stack);
      laws[i] = new Text(stack);
    }
    Arrays.fill(shelfSort, NOTHING);
  }

  // ---- lists

  public int list(int year, int signed) {
    if (!isFrom(year, 0, LAST_YEAR) || !isFrom(signed, 0, MOST_SIGNED)) {
      return BAD;
    }
    int number = many[LISTS];
    if (number >= MOST_LISTS) {
      return FULL;
    }
    lists[number][YEAR] = year;
    lists[number][SIGNED] = signed;
    many[LISTS] = number + 1;
    return number;
  }

  public int mark(int list, int what, int v) {
    if (listAt(list) == null || !isFrom(what, 0, 1)) {
      return BAD;
    }
    if (!isFrom(v, 0, what == 0 ? LAST_YEAR : MOST_SIGNED)) {
      return BAD;
    }
    return become(list, what == 0 ? YEAR : SIGNED, v);
  }

  public int say(int list, int age, int v) {
    if (listAt(list) == null || !isAge(age) || !isFrom(v, 0, MOST_SAID)) {
      return BAD;
    }
    return become(list, age, v);
  }

  public int sayings(int list, int shelf, int i, int n) {
    int[] row = listAt(list);
    if (row == null || !isShelf(shelf) || !isFrom(n, 1, MOST_ELEMENTS)) {
      return BAD;
    }
    if (shelfSort[shelf] == NOTHING) {
      return 0;
    }
    if (shelfSort[shelf] != INTS) {
      return OTHER_KIND;
    }
    for (int came = 0; came < n; came++) {
      long age = isPlace(shelf, i + came) ? shelfRow[shelf][i + came] : -1;
      if (age < 0 || age >= AGES) {
        return came;
      }
      oneMore(row, (int) age);
    }
    return n;
  }

  public int of(int list, int what) {
    int[] row = listAt(list);
    if (row == null) {
      return BAD;
    }
    if (isAge(what)) {
      return row[what];
    }
    switch (what) {
      case 100: return people(row, 99);
      case 101: return row[YEAR];
      case 102: return row[SIGNED];
      default: return BAD;
    }
  }

  private int[] listAt(int list) {
    return isFrom(list, 0, many[LISTS] - 1) && list < MOST_LISTS ? lists[list] : null;
  }

  private static boolean isFrom(int v, int least, int most) {
    return v >= least && v <= most;
  }

  private static boolean isAge(int age) {
    return isFrom(age, 0, AGES - 1);
  }

  private static void oneMore(int[] row, int age) {
    if (row[age] < MOST_SAID) {
      row[age]++;
    }
  }

  // ---- texts, measures (between: 100 times the first AGE and the last one, not less, here and further on)

  public int feed(int n, int v) {
    if (!isFrom(n, 1, 4)) {
      return BAD;
    }
    int length = many[TAPE];
    if (length + n > MOST_BYTES) {
      return FULL;
    }
    for (int i = 0; i < n; i++) {
      tape[length + i] = (byte) (v >> 8 * i);
    }
    many[TAPE] = length + n;
    return many[TAPE];
  }

  public int measure(int between) {
    if (!isBetween(between)) {
      return BAD;
    }
    int answer = takeTape(measures, MEASURES);
    Text measure = measureAt(answer);
    if (measure != null) {
      measure.layOut(between);
    }
    return answer;
  }

  public int law() {
    return takeTape(laws, LAWS);
  }

  public int isIn(int measure, int age) {
    Text text = measureAt(measure);
    if (text == null || !isAge(age)) {
      return BAD;
    }
    boolean lies = age >= text.between / 100 && age <= text.between % 100;
    return lies && text.in[age] != 0 ? 1 : 0;
  }

  public int measured(int list, int measure) {
    int[] row = listAt(list);
    Text text = measureAt(measure);
    if (row == null || text == null) {
      return VOID;
    }
    return measureOf(row, text.between, text.in);
  }

  /** THE TAPE becomes the next of such TEXTS: its number, or why not. */
  private int takeTape(Text[] texts, int place) {
    int number = many[place];
    if (number >= texts.length || texts[number] == null) {
      return FULL;
    }
    int fault = texts[number].read(tape, many[TAPE]);
    many[TAPE] = 0;
    if (fault != Text.WHOLE) {
      return FIRST_FAULT - fault;
    }
    many[place] = number + 1;
    return number;
  }

  private Text measureAt(int measure) {
    return isFrom(measure, 0, many[MEASURES] - 1) && measure < MOST_TEXTS ? measures[measure] : null;
  }

  private static boolean isBetween(int between) {
    return isFrom(between, 0, 9999) && between / 100 <= between % 100;
  }

  private static int agesBetween(int between) {
    return between % 100 - between / 100 + 1;
  }

  private static int people(int[] row, int between) {
    int sum = 0;
    for (int age = between / 100; age <= between % 100; age++) {
      sum += row[age];
    }
    return sum;
  }

  private static int peopleIn(int[] row, int between, int[] in) {
    int sum = 0;
    for (int age = between / 100; age <= between % 100; age++) {
      sum += in[age] != 0 ? row[age] : 0;
    }
    return sum;
  }

  private static int agesIn(int between, int[] in) {
    int sum = 0;
    for (int age = between / 100; age <= between % 100; age++) {
      sum += in[age] != 0 ? 1 : 0;
    }
    return sum;
  }

  private static int measureOf(int[] row, int between, int[] in) {
    return against(peopleIn(row, between, in), people(row, between), between, agesIn(between, in));
  }

  /** The MEASURE of so many that say an AGE that is IN, of all between. */
  private static int against(int those, int all, int between, int agesIn) {
    if (all == 0 || agesIn == 0) {
      return VOID;
    }
    return (int) (10000L * those * agesBetween(between) / ((long) all * agesIn));
  }

  // ---- ends, what is counted by, chance

  public int share(int list, int between, int figure) {
    int[] row = listAt(list);
    if (row == null || !isBetween(between) || !isFrom(figure, 0, FIGURES - 1)) {
      return BAD;
    }
    int all = figuresOf(row, between, ones);
    return all == 0 ? NOT : thousandths(ones[figure], all);
  }

  public int off(int list, int between) {
    int[] row = listAt(list);
    if (row == null || !isBetween(between)) {
      return BAD;
    }
    int all = blend(row, between, ones);
    if (all == 0) {
      return NOT;
    }
    int sum = 0;
    for (int figure = 0; figure < FIGURES; figure++) {
      sum += Math.abs(thousandths(ones[figure], all) - 100);
    }
    return sum / 2;
  }

  public int counted(int list, int between, int mr) {
    int[] row = listAt(list);
    if (row == null || !isBetween(between) || mr < 0) {
      return VOID;
    }
    if (!isFrom(mr / 100, LEAST_BY, MOST_BY) || mr % 100 >= mr / 100) {
      return VOID;
    }
    return countedBy(row, between, mr / 100, mr % 100);
  }

  public int by(int list, int between, int what) {
    int[] row = listAt(list);
    if (row == null || !isBetween(between) || !isFrom(what, 0, 1)) {
      return BAD;
    }
    int best = VOID;
    int bestBy = 0;
    for (int m = LEAST_BY; m <= MOST_BY; m++) {
      for (int rest = 0; rest < m; rest++) {
        int measure = countedBy(row, between, m, rest);
        if (measure != VOID && measure > best) {
          best = measure;
          bestBy = 100 * m + rest;
        }
      }
    }
    if (best == VOID) {
      return NOT;
    }
    return what == 0 ? bestBy : best;
  }

  public int chance(int list, int measure, int seed, int n) {
    int[] row = listAt(list);
    Text text = measureAt(measure);
    if (row == null || text == null || !isFrom(n, 1, MOST_TIMES)) {
      return BAD;
    }
    // BIG is named ahead of NOT here.
    int all = people(row, text.between);
    if (all > MOST_PEOPLE) {
      return BIG;
    }
    int due = measureOf(row, text.between, text.in);
    if (due == VOID) {
      return NOT;
    }
    drawState = seed;
    int often = 0;
    for (int i = 0; i < n; i++) {
      layAnew(all, text.between, work);
      often += measureOf(work, text.between, text.in) >= due ? 1 : 0;
    }
    return often;
  }

  public int mended(int list, int measure, int j, int what) {
    int[] row = listAt(list);
    Text text = measureAt(measure);
    if (row == null || text == null || !isFrom(j, 0, MOST_MENDED) || !isFrom(what, 0, 1)) {
      return VOID;
    }
    int between = text.between;
    int all = people(row, between);
    int those = peopleIn(row, between, text.in);
    int agesIn = agesIn(between, text.in);
    if (what == 1) {
      those += Math.min(j, all - those);
    } else if (agesIn < agesBetween(between)) {
      those -= Math.min(j, those);
    }
    return against(those, all, between, agesIn);
  }

  /** Lays those between by their last figures into a row: how many they are. */
  private static int figuresOf(int[] row, int between, int[] figures) {
    Arrays.fill(figures, 0);
    int sum = 0;
    for (int age = between / 100; age <= between % 100; age++) {
      figures[age % FIGURES] += row[age];
      sum += row[age];
    }
    return sum;
  }

  /** Lays BLENDED sums into a row: their sum. */
  private static int blend(int[] row, int between, int[] figures) {
    Arrays.fill(figures, 0);
    int sum = 0;
    for (int later = 0; later < FIGURES; later++) {
      for (int age = between / 100 + later; age <= between % 100; age++) {
        figures[age % FIGURES] += row[age];
        sum += row[age];
      }
    }
    return sum;
  }

  private static int thousandths(int part, int all) {
    return all == 0 ? 0 : (int) (1000L * part / all);
  }

  private int countedBy(int[] row, int between, int m, int rest) {
    for (int age = 0; age < AGES; age++) {
      work[age] = m > 0 && age % m == rest ? 1 : 0;
    }
    return measureOf(row, between, work);
  }

  private void layAnew(int all, int between, int[] row) {
    Arrays.fill(row, 0);
    int ages = agesBetween(between);
    if (ages < 1) {
      return;
    }
    for (int i = 0; i < all; i++) {
      row[between / 100 + nextDraw() % ages]++;
    }
  }

  private int nextDraw() {
    drawState = drawState * 1103515245 + 12345;
    return drawState >>> 8;
  }

  // ---- laws, lands

  public int land(int list, int law, int n, int ks, int seed) {
    int[] row = listAt(list);
    Text text = lawAt(law);
    if (row == null || text == null || !isFrom(n, 1, MOST_IN_LAND) || !isKnowSort(ks)) {
      return BAD;
    }
    drawState = seed;
    for (int i = 0; i < n; i++) {
      int age = nextDraw() % AGES;
      int knows = nextDraw() % 100 < ks / 10 ? 1 : 0;
      int draw = nextDraw() % DRAWS;
      oneMore(row, saidBy(text, age, knows, draw, ks % 10));
    }
    return n;
  }

  public int says(int law, int age, int kz) {
    Text text = lawAt(law);
    if (text == null || !isAge(age) || !isFrom(kz, 0, 1999) || kz % 10 > MOST_SORT) {
      return BAD;
    }
    return saidBy(text, age, kz / 1000, kz / 10 % DRAWS, kz % 10);
  }

  public int truly(int law, int age, int ks, int what) {
    Text text = lawAt(law);
    if (text == null || !isAge(age) || !isKnowSort(ks) || !isFrom(what, 0, 1)) {
      return BAD;
    }
    int all = 0;
    int asTold = 0;
    int most = 0;
    int likeliest = 0;
    for (int truth = 0; truth < AGES; truth++) {
      Arrays.fill(work, 0);
      weigh(text, truth, ks, work);
      int weight = work[age];
      all += weight;
      asTold = truth == age ? weight : asTold;
      if (weight > most) {
        most = weight;
        likeliest = truth;
      }
    }
    if (all == 0) {
      return NOT;
    }
    return what == 0 ? thousandths(asTold, all) : likeliest;
  }

  public int fits(int list, int law, int ks) {
    int[] row = listAt(list);
    Text text = lawAt(law);
    if (row == null || text == null || !isKnowSort(ks)) {
      return BAD;
    }
    return fit(row, text, ks);
  }

  public int best(int list, int ks, int what) {
    int[] row = listAt(list);
    if (row == null || !isKnowSort(ks) || !isFrom(what, 0, 1)) {
      return BAD;
    }
    int best = STATE;
    int least = STATE;
    for (int law = 0; law < many[LAWS]; law++) {
      Text text = lawAt(law);
      int fit = text == null ? STATE : fit(row, text, ks);
      if (fit != STATE && (best == STATE || fit < least)) {
        best = law;
        least = fit;
      }
    }
    return what == 0 ? best : least;
  }

  private Text lawAt(int law) {
    return isFrom(law, 0, many[LAWS] - 1) && law < MOST_TEXTS ? laws[law] : null;
  }

  private static boolean isKnowSort(int ks) {
    return isFrom(ks, 0, 1009) && ks % 10 <= MOST_SORT;
  }

  private int saidBy(Text law, int age, int knows, int draw, int sort) {
    int value = law.value(age, knows, draw, sort, lineAge);
    return Math.max(0, Math.min(AGES - 1, value));
  }

  /** Adds to the AGES that people of one true AGE say, in millionths of all people. */
  private void weigh(Text law, int truth, int ks, int[] row) {
    for (int knows = 0; knows <= 1; knows++) {
      int weight = knows == 1 ? ks / 10 : 100 - ks / 10;
      for (int draw = 0; draw < DRAWS && weight > 0; draw++) {
        int said = saidBy(law, truth, knows, draw, ks % 10);
        // Who does not ask his draw says the same by all of them.
        if (!law.askedDraw) {
          row[said] += weight * DRAWS;
          break;
        }
        row[said] += weight;
      }
    }
  }

  private int fit(int[] row, Text law, int ks) {
    Arrays.fill(work, 0);
    for (int truth = 0; truth < AGES; truth++) {
      weigh(law, truth, ks, work);
    }
    long all = people(row, 99);
    long sum = 0;
    for (int age = 0; age < AGES; age++) {
      sum += Math.abs(row[age] * MILLION - work[age] * all);
    }
    return (int) (sum / MILLION);
  }

  // ---- pairs, lines, clerks

  public int pair(int ft, int years) {
    if (!isFrom(ft, 0, 9999) || !isFrom(years, 0, MOST_YEARS)) {
      return BAD;
    }
    int number = many[PAIRS];
    if (number >= MOST_PAIRS) {
      return FULL;
    }
    pairs[number][0] = ft / 100;
    pairs[number][1] = ft % 100;
    pairs[number][2] = years;
    many[PAIRS] = number + 1;
    return number;
  }

  public int goes(int sort) {
    if (!isFrom(sort, STAYS, LONG)) {
      return BAD;
    }
    int sum = 0;
    for (int i = 0; i < many[PAIRS] && i < MOST_PAIRS; i++) {
      sum += sortOf(pairs[i][1] - pairs[i][0], pairs[i][2]) == sort ? 1 : 0;
    }
    return sum;
  }

  public int mean() {
    int gone = 0;
    int due = 0;
    for (int i = 0; i < many[PAIRS] && i < MOST_PAIRS; i++) {
      gone += pairs[i][1] - pairs[i][0];
      due += pairs[i][2];
    }
    return due == 0 ? VOID : thousandths(gone, due);
  }

  public int line(int v) {
    if (!isAge(v)) {
      return BAD;
    }
    int was = lineAge;
    lineAge = v;
    return was;
  }

  public int turned() {
    int sum = 0;
    for (int i = 0; i < many[PAIRS] && i < MOST_PAIRS; i++) {
      boolean below = pairs[i][0] < lineAge && pairs[i][1] < lineAge;
      sum += below && pairs[i][0] + pairs[i][2] >= lineAge ? 1 : 0;
    }
    return sum;
  }

  public int side(int list, int w) {
    int[] row = listAt(list);
    if (row == null || !isFrom(w, 1, MOST_WIDE)) {
      return BAD;
    }
    int below = 0;
    int above = 0;
    for (int i = 0; i < w; i++) {
      below += isAge(lineAge - 1 - i) ? row[lineAge - 1 - i] : 0;
      above += isAge(lineAge + i) ? row[lineAge + i] : 0;
    }
    return below + above == 0 ? NOT : thousandths(below, below + above);
  }

  public int apart(int lo, int between) {
    if (!isTwoLists(lo) || !isBetween(between)) {
      return BAD;
    }
    int first = figuresOf(lists[lo / 10], between, ones);
    int second = figuresOf(lists[lo % 10], between, others);
    return first == 0 || second == 0 ? NOT : apartness(first, second);
  }

  public int drawn(int lo, int between, int seed, int n) {
    if (!isTwoLists(lo) || !isBetween(between) || !isFrom(n, 1, MOST_TIMES)) {
      return BAD;
    }
    int[] one = lists[lo / 10];
    int[] other = lists[lo % 10];
    int first = figuresOf(one, between, ones);
    int second = figuresOf(other, between, others);
    // BIG is named ahead of NOT here.
    if (first + second > MOST_PEOPLE) {
      return BIG;
    }
    if (first == 0 || second == 0) {
      return NOT;
    }
    int due = apartness(first, second);
    drawState = seed;
    int often = 0;
    for (int i = 0; i < n; i++) {
      Arrays.fill(ones, 0);
      Arrays.fill(others, 0);
      int places = drawAbout(one, between, first, first + second);
      drawAbout(other, between, places, second);
      often += apartness(first, second) >= due ? 1 : 0;
    }
    return often;
  }

  public int years(int measure) {
    Text text = measureAt(measure);
    if (text == null) {
      return VOID;
    }
    long n = 0, x = 0, y = 0, xx = 0, xy = 0;
    for (int i = 0; i < many[LISTS] && i < MOST_LISTS; i++) {
      long value = measureOf(lists[i], text.between, text.in);
      if (value != VOID) {
        long year = lists[i][YEAR];
        n++;
        x += year;
        y += value;
        xx += year * year;
        xy += year * value;
      }
    }
    // 0 too where there are fewer than two.
    long spread = n * xx - x * x;
    return spread == 0 ? NOT : (int) (1000 * (n * xy - x * y) / spread);
  }

  public int beside(int measure) {
    Text text = measureAt(measure);
    if (text == null) {
      return VOID;
    }
    int sum = 0;
    for (int i = 0; i < many[LISTS] && i < MOST_LISTS; i++) {
      int one = measureOf(lists[i], text.between, text.in);
      for (int j = 0; j < i; j++) {
        int other = measureOf(lists[j], text.between, text.in);
        if (one != VOID && other != VOID) {
          long way = (long) (one - other) * (lists[i][SIGNED] - lists[j][SIGNED]);
          sum += way < 0 ? 1 : 0;
          sum -= way > 0 ? 1 : 0;
        }
      }
    }
    return sum;
  }

  public int undo() {
    int left = many[UNDOABLE] - 1;
    if (!isFrom(left, 0, MOST_CHANGES - 1)) {
      return STATE;
    }
    many[UNDOABLE] = left;
    redoable++;
    setBack(left, 2);
    return left;
  }

  public int redo() {
    int next = many[UNDOABLE];
    if (redoable < 1 || !isFrom(next, 0, MOST_CHANGES - 1)) {
      return STATE;
    }
    many[UNDOABLE] = next + 1;
    redoable--;
    setBack(next, 3);
    return redoable;
  }

  private static int sortOf(int gone, int years) {
    if (gone == years) {
      return TRUE;
    }
    if (gone > years) {
      return LONG;
    }
    return gone == 0 ? STAYS : SHORT;
  }

  private boolean isTwoLists(int lo) {
    return isFrom(lo, 0, 99) && lo / 10 != lo % 10 && listAt(lo / 10) != null && listAt(lo % 10) != null;
  }

  /** APART by the last figures in the two work rows, of so many people each. */
  private int apartness(int first, int second) {
    int sum = 0;
    for (int figure = 0; figure < FIGURES; figure++) {
      sum += Math.abs(thousandths(ones[figure], first) - thousandths(others[figure], second));
    }
    return sum / 2;
  }

  /** Draws the people of a LIST about between the work rows: the places left in the first one. */
  private int drawAbout(int[] row, int between, int placesLeft, int peopleLeft) {
    int places = placesLeft;
    int left = peopleLeft;
    for (int age = between / 100; age <= between % 100; age++) {
      for (int i = 0; i < row[age] && left > 0; i++) {
        boolean toFirst = nextDraw() % left < places;
        left--;
        if (toFirst) {
          places--;
          ones[age % FIGURES]++;
        } else {
          others[age % FIGURES]++;
        }
      }
    }
    return places;
  }

  /** A number of a LIST becomes what is told: what it was. */
  private int become(int list, int place, int v) {
    int was = lists[list][place];
    if (was == v) {
      return was;
    }
    redoable = 0;
    if (many[UNDOABLE] >= MOST_CHANGES) {
      System.arraycopy(changes, CHANGE_SIZE, changes, 0, changes.length - CHANGE_SIZE);
      many[UNDOABLE] = MOST_CHANGES - 1;
    }
    int at = many[UNDOABLE] * CHANGE_SIZE;
    changes[at] = list;
    changes[at + 1] = place;
    changes[at + 2] = was;
    changes[at + 3] = v;
    many[UNDOABLE]++;
    lists[list][place] = v;
    return was;
  }

  private void setBack(int change, int to) {
    int at = change * CHANGE_SIZE;
    lists[changes[at]][changes[at + 1]] = changes[at + to];
  }

  // ---- acts, shelves

  public int body(int kind) {
    if (!isFrom(kind, 0, KINDS - 1)) {
      return BAD;
    }
    int number = many[SAYINGS];
    if (number >= MOST_SAYINGS) {
      return FULL;
    }
    kept[number] = newSaying(kind, number);
    many[SAYINGS] = number + 1;
    return number;
  }

  public int act(int body, int act, int x) {
    ran[0] = 0;
    Saying saying = sayingAt(body);
    if (saying == null) {
      return 0;
    }
    switch (act) {
      case 0: return saying.knowing(x);
      case 1: return saying.saying(x);
      case 2: return saying.writing(x);
      case 3: return saying.telling(x);
      default: return 0;
    }
  }

  public int trace(int i) {
    return isFrom(i, 0, TRACED - 1) && i < ran[0] ? ran[i + 1] : BAD;
  }

  public int keep(int shelf, int body) {
    if (!isShelf(shelf) || body != -1 && sayingAt(body) == null) {
      return BAD;
    }
    shelfSort[shelf] = body == -1 ? NOTHING : A_SAYING;
    shelfSize[shelf] = body == -1 ? 0 : body;
    return 1;
  }

  public int row(int shelf, int sort, int n) {
    if (!isShelf(shelf) || !isFrom(sort, BYTES, BOOLEANS) || n > MOST_ELEMENTS) {
      return BAD;
    }
    if (n < 0) {
      return SIZE_BELOW_0;
    }
    shelfSort[shelf] = sort;
    shelfSize[shelf] = n;
    Arrays.fill(shelfRow[shelf], 0L);
    return 1;
  }

  public int put(int shelf, int i, long v) {
    int refusal = refusal(shelf, i);
    if (refusal != 0) {
      return refusal;
    }
    shelfRow[shelf][i] = lowestBits(shelfSort[shelf], v);
    return 1;
  }

  public long element(int shelf, int i) {
    return refusal(shelf, i) != 0 ? Long.MIN_VALUE : shelfRow[shelf][i];
  }

  public int shift(int shelf, int i, int other, int j, int n) {
    if (!isShelf(shelf) || !isShelf(other)) {
      return BAD;
    }
    int sort = shelfSort[shelf];
    if (sort == NOTHING || shelfSort[other] == NOTHING) {
      return NOTHING_THERE;
    }
    if (sort == A_SAYING || shelfSort[other] != sort) {
      return OTHER_KIND;
    }
    if (!isPart(shelf, i, n) || !isPart(other, j, n)) {
      return NO_PLACE;
    }
    System.arraycopy(shelfRow[shelf], i, shelfRow[other], j, n);
    return n;
  }

  public int taken(int shelf, int k) {
    if (!isShelf(shelf) || !isFrom(k, 0, KINDS - 1)) {
      return BAD;
    }
    if (shelfSort[shelf] == NOTHING) {
      return NOTHING_THERE;
    }
    Saying saying = shelfSort[shelf] == A_SAYING ? sayingAt(shelfSize[shelf]) : null;
    if (saying == null || !isOfKind(saying, k)) {
      return OTHER_KIND;
    }
    return saying.kind;
  }

  public int count(int what) {
    if (what == RAN) {
      return ran[0];
    }
    return isFrom(what, LISTS, SAYINGS) ? many[what] : BAD;
  }

  private Saying sayingAt(int body) {
    return isFrom(body, 0, many[SAYINGS] - 1) && body < MOST_SAYINGS ? kept[body] : null;
  }

  private Saying newSaying(int kind, int number) {
    switch (kind) {
      case 1: return new Known(kind, number, ran);
      case 2: return new Rounded(kind, number, ran);
      case 3: return new Stayed(kind, number, ran);
      case 4: return new Turned(kind, number, ran);
      case 5: return new Others(kind, number, ran);
      case 6: return new Clerks(kind, number, ran);
      case 7: return new Odd(kind, number, ran);
      default: return new Saying(kind, number, ran);
    }
  }

  private static boolean isOfKind(Saying saying, int kind) {
    switch (kind) {
      case 0: return true;
      case 1: return saying instanceof Known;
      case 2: return saying instanceof Rounded;
      case 3: return saying instanceof Stayed;
      case 4: return saying instanceof Turned;
      case 5: return saying instanceof Others;
      case 6: return saying instanceof Clerks;
      case 7: return saying instanceof Odd;
      default: return false;
    }
  }

  private static boolean isShelf(int shelf) {
    return isFrom(shelf, 0, SHELVES - 1);
  }

  private boolean isPlace(int shelf, int i) {
    return isFrom(i, 0, shelfSize[shelf] - 1) && i < MOST_ELEMENTS;
  }

  private boolean isPart(int shelf, int i, int n) {
    int size = shelfSize[shelf];
    return isFrom(n, 0, size) && isFrom(i, 0, size - n) && size <= MOST_ELEMENTS;
  }

  /** Why element i of a SHELF can't be had, or 0. */
  private int refusal(int shelf, int i) {
    if (!isShelf(shelf)) {
      return BAD;
    }
    if (shelfSort[shelf] == NOTHING) {
      return NOTHING_THERE;
    }
    if (shelfSort[shelf] == A_SAYING) {
      return OTHER_KIND;
    }
    return isPlace(shelf, i) ? 0 : NO_PLACE;
  }

  private static long lowestBits(int sort, long v) {
    switch (sort) {
      case BYTES: return (byte) v;
      case SHORTS: return (short) v;
      case INTS: return (int) v;
      case LONGS: return v;
      default: return v != 0 ? 1 : 0;
    }
  }

  /** A TEXT: its bytes turned once into a row of steps, operands ahead of what is done with them. */
  private static final class Text {
    static final int WHOLE = -1;

    private static final String NAMES = "aufwkzsl";
    private static final int DRAW = 5;
    // Steps: below 8 a NAME, from 256 on a number, else a sign of the TEXT; this one is - ahead of an O.
    private static final int LESS = '_', NUMBER = 256;
    // Levels of the TEXT: E 0, A 1, B 2, S 3, P 4, O 5.
    private static final int COMPARED = 2, SINGLE = 5;
    private static final int MOST_OPEN = 6, MOST_DIGITS = 4;

    private final int[] steps = new int[MOST_BYTES + 1];
    private int stepCount = 0;
    private final int[] names = new int[8];
    private final int[] stack;
    private byte[] bytes = null;
    private int length = 0;
    private int place = 0;

    // Of a MEASURE: its AGES, and which of them are IN.
    int between = 0;
    final int[] in = new int[AGES];

    // Whether the draw had a part in the latest value.
    boolean askedDraw = false;

    Text(int[] stack) {
      this.stack = stack;
    }

    /** Reads a TEXT: WHOLE, or its FAULT. */
    int read(byte[] tape, int n) {
      bytes = tape;
      length = tape == null ? 0 : Math.min(n, tape.length);
      place = 0;
      stepCount = 0;
      for (int i = 0; i <= MOST_BYTES; i++) {
        if (!readLine()) {
          return place;
        }
        step(';');
        if (place >= length) {
          return WHOLE;
        }
        if (sign() != ';') {
          return place;
        }
        place++;
      }
      return place;
    }

    private boolean readLine() {
      if (!readPart(0, 0)) {
        return false;
      }
      if (sign() != '?') {
        return true;
      }
      step('?');
      place++;
      return readPart(0, 0);
    }

    /** Reads what stands on a level, with so many of ( ! - open: whether a TEXT goes on so. */
    private boolean readPart(int level, int open) {
      if (level >= SINGLE) {
        return readSingle(open);
      }
      if (!readPart(level + 1, open)) {
        return false;
      }
      int most = level == COMPARED ? 1 : MOST_BYTES;
      for (int i = 0; i < most && levelOf(sign()) == level; i++) {
        int sign = sign();
        place++;
        if (!readPart(level + 1, open)) {
          return false;
        }
        step(sign);
      }
      return true;
    }

    private boolean readSingle(int open) {
      int sign = sign();
      if (isDigit(sign)) {
        readNumber();
        return true;
      }
      if (sign >= 0 && NAMES.indexOf((char) sign) >= 0) {
        step(NAMES.indexOf((char) sign));
        place++;
        return true;
      }
      if (open >= MOST_OPEN || sign != '(' && sign != '!' && sign != '-') {
        return false;
      }
      place++;
      if (sign == '(') {
        return readClosed(open + 1);
      }
      if (!readSingle(open + 1)) {
        return false;
      }
      step(sign == '-' ? LESS : sign);
      return true;
    }

    private boolean readClosed(int open) {
      if (!readPart(0, open) || sign() != ')') {
        return false;
      }
      place++;
      return true;
    }

    private void readNumber() {
      int number = 0;
      for (int i = 0; i < MOST_DIGITS && isDigit(sign()); i++) {
        number = number * 10 + sign() - '0';
        place++;
      }
      step(NUMBER + number);
    }

    private int sign() {
      return bytes != null && place >= 0 && place < length ? bytes[place] & 255 : -1;
    }

    private void step(int step) {
      if (stepCount < steps.length) {
        steps[stepCount] = step;
        stepCount++;
      }
    }

    private static boolean isDigit(int sign) {
      return sign >= '0' && sign <= '9';
    }

    private static int levelOf(int sign) {
      switch (sign) {
        case '|': return 0;
        case '&': return 1;
        case '<': case '=': case '>': return 2;
        case '+': case '-': return 3;
        case '*': case '/': case '%': return 4;
        default: return -1;
      }
    }

    void layOut(int ages) {
      between = ages;
      for (int age = 0; age < AGES; age++) {
        in[age] = value(age, 0, 0, 0, 0) != 0 ? 1 : 0;
      }
    }

    /** What the TEXT gives of such NAMES. */
    int value(int age, int knows, int draw, int sort, int line) {
      names[0] = age;
      names[1] = age % 10;
      names[2] = age % 5;
      names[3] = age % 12;
      names[4] = knows;
      names[DRAW] = draw;
      names[6] = sort;
      names[7] = line;
      askedDraw = false;
      boolean counts = true;
      int top = 0;
      for (int i = 0; i < stepCount && top < stack.length; i++) {
        int step = steps[i];
        if (!counts) {
          counts = step == ';';
        } else if (step >= NUMBER) {
          stack[top] = step - NUMBER;
          top++;
        } else if (step < names.length) {
          stack[top] = names[step];
          top++;
          askedDraw = askedDraw || step == DRAW;
        } else if (top > 0 && step == ';') {
          return stack[top - 1];
        } else if (top > 0 && step == '?') {
          top--;
          counts = stack[top] != 0;
        } else if (top > 0 && step == '!') {
          stack[top - 1] = stack[top - 1] == 0 ? 1 : 0;
        } else if (top > 0 && step == LESS) {
          stack[top - 1] = -stack[top - 1];
        } else if (top > 1) {
          top--;
          stack[top - 1] = joined(step, stack[top - 1], stack[top]);
        }
      }
      return 0;
    }

    private static int joined(int sign, int left, int right) {
      switch (sign) {
        case '|': return left != 0 || right != 0 ? 1 : 0;
        case '&': return left != 0 && right != 0 ? 1 : 0;
        case '<': return left < right ? 1 : 0;
        case '=': return left == right ? 1 : 0;
        case '>': return left > right ? 1 : 0;
        case '+': return left + right;
        case '-': return left - right;
        case '*': return left * right;
        case '/': return right == 0 ? 0 : left / right;
        case '%': return right == 0 ? 0 : left % right;
        default: return 0;
      }
    }
  }

  /** KNOWS. */
  private static interface Knows {
    int number();

    void began(int body);

    default int knowing(int x) {
      began(1);
      return x + number();
    }
  }

  /** TELLS. */
  private static interface Tells {
    void began(int body);

    int saying(int x);

    int writing(int x);

    default int telling(int x) {
      began(2);
      int said = saying(x);
      return said - writing(1);
    }
  }

  private static class Saying implements Knows, Tells {
    final int kind;
    private final int n;
    private final int[] ran;

    Saying(int kind, int n, int[] ran) {
      this.kind = kind;
      this.n = n;
      this.ran = ran;
    }

    public final int number() {
      return n;
    }

    public final void began(int body) {
      if (ran == null || ran.length == 0) {
        return;
      }
      ran[0]++;
      if (ran[0] >= 1 && ran[0] < ran.length) {
        ran[ran[0]] = body;
      }
    }

    public int saying(int x) {
      began(10);
      return knowing(x) * 2;
    }

    public int writing(int x) {
      began(11);
      return x ^ number();
    }
  }

  private static class Known extends Saying {
    Known(int kind, int n, int[] ran) {
      super(kind, n, ran);
    }

    public int knowing(int x) {
      began(20);
      return super.knowing(x) + 3;
    }
  }

  private static class Rounded extends Saying {
    Rounded(int kind, int n, int[] ran) {
      super(kind, n, ran);
    }

    public int saying(int x) {
      began(30);
      return -super.saying(x);
    }
  }

  private static final class Stayed extends Rounded {
    Stayed(int kind, int n, int[] ran) {
      super(kind, n, ran);
    }

    public int writing(int x) {
      began(40);
      return super.writing(x) * 3;
    }
  }

  private static final class Turned extends Known {
    Turned(int kind, int n, int[] ran) {
      super(kind, n, ran);
    }

    public int telling(int x) {
      began(50);
      return super.telling(x) ^ 5;
    }
  }

  private static class Others extends Saying {
    Others(int kind, int n, int[] ran) {
      super(kind, n, ran);
    }

    public int knowing(int x) {
      began(60);
      return super.knowing(x + 1);
    }
  }

  private static final class Clerks extends Others {
    Clerks(int kind, int n, int[] ran) {
      super(kind, n, ran);
    }

    public int writing(int x) {
      began(70);
      int written = super.writing(x);
      return written + knowing(2);
    }
  }

  private static final class Odd extends Rounded {
    Odd(int kind, int n, int[] ran) {
      super(kind, n, ran);
    }

    public int saying(int x) {
      began(80);
      int said = super.saying(x);
      return said - writing(2);
    }

    public int telling(int x) {
      began(81);
      return super.telling(x) * 2;
    }
  }
}
