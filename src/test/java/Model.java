import java.math.BigInteger;
import java.util.ArrayList;
import java.util.Arrays;
import java.util.List;
import java.util.TreeMap;

/** The document told a second time, in other ways than the program's: to be held against it. */
final class Model {
  static final int BAD = -1, NOT = -2, FULL = -3, BIG = -4, STATE = -5, VOID = -2000000000;

  static final class ListOf {
    int year;
    int signed;
    final int[] said = new int[100];
  }

  static final class Measure {
    String text;
    int first;
    int last;

    boolean in(int age) {
      return age >= first && age <= last && ModelText.value(text, age, 0, 0, 0, 0) != 0;
    }
  }

  record Change(int list, int what, int was, int now) {}

  final List<ListOf> lists = new ArrayList<>();
  final StringBuilder tape = new StringBuilder();
  final List<Measure> measures = new ArrayList<>();
  final List<String> laws = new ArrayList<>();
  final List<int[]> pairs = new ArrayList<>();
  final List<Change> done = new ArrayList<>();
  final List<Change> undone = new ArrayList<>();
  final List<Integer> kinds = new ArrayList<>();
  final Object[] shelves = new Object[6];
  final List<Integer> trace = new ArrayList<>();
  int line = 0;
  int z;

  private static boolean has(List<?> all, int i) {
    return i >= 0 && i < all.size();
  }

  private static boolean in(int v, int least, int most) {
    return least <= v && v <= most;
  }

  private static boolean between(int b) {
    return in(b, 0, 9999) && b / 100 <= b % 100;
  }

  private static int cut(long a, long b) {
    return BigInteger.valueOf(a).divide(BigInteger.valueOf(b)).intValueExact();
  }

  int list(int year, int signed) {
    if (!in(year, 0, 9999) || !in(signed, 0, 1000)) return BAD;
    if (lists.size() == 8) return FULL;
    ListOf l = new ListOf();
    l.year = year;
    l.signed = signed;
    lists.add(l);
    return lists.size() - 1;
  }

  private int get(int list, int what) {
    ListOf l = lists.get(list);
    return what == 101 ? l.year : what == 102 ? l.signed : l.said[what];
  }

  private void set(int list, int what, int v) {
    ListOf l = lists.get(list);
    if (what == 101) l.year = v;
    else if (what == 102) l.signed = v;
    else l.said[what] = v;
  }

  private int told(int list, int what, int v) {
    int was = get(list, what);
    if (was != v) {
      undone.clear();
      done.add(new Change(list, what, was, v));
      if (done.size() > 40) done.remove(0);
      set(list, what, v);
    }
    return was;
  }

  int mark(int list, int what, int v) {
    if (!has(lists, list) || what != 0 && what != 1) return BAD;
    if (!in(v, 0, what == 0 ? 9999 : 1000)) return BAD;
    return told(list, 101 + what, v);
  }

  int say(int list, int age, int v) {
    return has(lists, list) && in(age, 0, 99) && in(v, 0, 9999) ? told(list, age, v) : BAD;
  }

  int undo() {
    if (done.isEmpty()) return STATE;
    Change c = done.remove(done.size() - 1);
    undone.add(c);
    set(c.list, c.what, c.was);
    return done.size();
  }

  int redo() {
    if (undone.isEmpty()) return STATE;
    Change c = undone.remove(undone.size() - 1);
    done.add(c);
    set(c.list, c.what, c.now);
    return undone.size();
  }

  int sayings(int list, int shelf, int i, int n) {
    if (!has(lists, list) || !in(shelf, 0, 5) || !in(n, 1, 60)) return BAD;
    if (shelves[shelf] != null && !(shelves[shelf] instanceof int[])) return -12;
    int came = 0;
    try {
      int[] row = (int[]) shelves[shelf];
      while (came < n) {
        comes(lists.get(list), row[i + came]);
        came++;
      }
    } catch (NullPointerException | ArrayIndexOutOfBoundsException e) {
      return came;
    }
    return came;
  }

  private static void comes(ListOf l, int age) {
    l.said[age] = Math.min(9999, l.said[age] + 1);
  }

  int of(int list, int what) {
    if (!has(lists, list) || !in(what, 0, 102)) return BAD;
    return what == 100 ? Arrays.stream(lists.get(list).said).sum() : get(list, what);
  }

  int feed(int n, int v) {
    if (!in(n, 1, 4)) return BAD;
    if (tape.length() + n > 120) return FULL;
    for (int i = 0; i < n; i++, v >>>= 8) tape.append((char) (v & 255));
    return tape.length();
  }

  int measure(int b) {
    if (!between(b)) return BAD;
    if (measures.size() == 6) return FULL;
    Measure m = new Measure();
    m.text = tape.toString();
    m.first = b / 100;
    m.last = b % 100;
    tape.setLength(0);
    int fault = ModelText.fault(m.text);
    if (fault >= 0) return -100 - fault;
    measures.add(m);
    return measures.size() - 1;
  }

  int law() {
    if (laws.size() == 6) return FULL;
    String text = tape.toString();
    tape.setLength(0);
    int fault = ModelText.fault(text);
    if (fault >= 0) return -100 - fault;
    laws.add(text);
    return laws.size() - 1;
  }

  int isIn(int measure, int age) {
    if (!has(measures, measure) || !in(age, 0, 99)) return BAD;
    return measures.get(measure).in(age) ? 1 : 0;
  }

  private static int ratio(int[] said, int first, int last, boolean[] in, int moved) {
    long all = 0, those = 0, ins = 0;
    for (int a = first; a <= last; a++) {
      all += said[a];
      if (in[a]) {
        those += said[a];
        ins++;
      }
    }
    if (all == 0 || ins == 0) return VOID;
    return cut(10000 * (those + moved) * (last - first + 1), all * ins);
  }

  private static boolean[] ins(Measure m) {
    boolean[] in = new boolean[100];
    for (int a = 0; a < 100; a++) in[a] = m.in(a);
    return in;
  }

  private static int ratio(int[] said, Measure m) {
    return ratio(said, m.first, m.last, ins(m), 0);
  }

  int measured(int list, int measure) {
    if (!has(lists, list) || !has(measures, measure)) return VOID;
    return ratio(lists.get(list).said, measures.get(measure));
  }

  private static int all(int[] said, int b) {
    int sum = 0;
    for (int a = b / 100; a <= b % 100; a++) sum += said[a];
    return sum;
  }

  private static int shareOf(int[] said, int b, int figure) {
    int sum = 0;
    for (int a = b / 100; a <= b % 100; a++) if (a % 10 == figure) sum += said[a];
    return cut(1000L * sum, all(said, b));
  }

  int share(int list, int b, int figure) {
    if (!has(lists, list) || !between(b) || !in(figure, 0, 9)) return BAD;
    int[] said = lists.get(list).said;
    return all(said, b) == 0 ? NOT : shareOf(said, b, figure);
  }

  int off(int list, int b) {
    if (!has(lists, list) || !between(b)) return BAD;
    int[] said = lists.get(list).said;
    long[] blended = new long[10];
    long sum = 0;
    for (int age = b / 100; age <= b % 100; age++) {
      // It is counted once for each beginning that is not behind it.
      long times = Math.min(10, age - b / 100 + 1);
      blended[age % 10] += times * said[age];
      sum += times * said[age];
    }
    if (sum == 0) return NOT;
    int off = 0;
    for (long bl : blended) off += Math.abs(cut(1000 * bl, sum) - 100);
    return off / 2;
  }

  private int countedBy(int list, int b, int m, int r) {
    boolean[] in = new boolean[100];
    for (int a = r; a < 100; a += m) in[a] = true;
    return ratio(lists.get(list).said, b / 100, b % 100, in, 0);
  }

  int counted(int list, int b, int mr) {
    if (!has(lists, list) || !between(b) || !in(mr, 200, 2099) || mr % 100 >= mr / 100) return VOID;
    return countedBy(list, b, mr / 100, mr % 100);
  }

  int by(int list, int b, int what) {
    if (!has(lists, list) || !between(b) || !in(what, 0, 1)) return BAD;
    TreeMap<Integer, Integer> best = new TreeMap<>();
    for (int mr = 200; mr <= 2019; mr++) {
      int measure = counted(list, b, mr);
      if (measure != VOID) best.putIfAbsent(measure, mr);
    }
    if (best.isEmpty()) return NOT;
    return what == 0 ? best.lastEntry().getValue() : best.lastKey();
  }

  private int next(int m) {
    z = z * 1103515245 + 12345;
    return (z >>> 8) % m;
  }

  int chance(int list, int measure, int seed, int n) {
    if (!has(lists, list) || !has(measures, measure) || !in(n, 1, 50)) return BAD;
    Measure m = measures.get(measure);
    int[] said = lists.get(list).said;
    int due = ratio(said, m);
    int all = all(said, 100 * m.first + m.last);
    if (all > 2000) return BIG;
    if (due == VOID) return NOT;
    z = seed;
    int often = 0;
    for (int t = 0; t < n; t++) {
      int[] anew = new int[100];
      for (int a = m.first; a <= m.last; a++) {
        for (int i = 0; i < said[a]; i++) anew[m.first + next(m.last - m.first + 1)]++;
      }
      if (ratio(anew, m) >= due) often++;
    }
    return often;
  }

  int mended(int list, int measure, int j, int what) {
    if (!has(lists, list) || !has(measures, measure) || !in(j, 0, 50) || !in(what, 0, 1)) return VOID;
    Measure m = measures.get(measure);
    int[] said = lists.get(list).said;
    int from = 0, to = 0;
    for (int a = m.first; a <= m.last; a++) {
      boolean leaves = m.in(a) == (what == 0);
      from += leaves ? said[a] : 0;
      to += leaves ? 0 : 1;
    }
    int moved = to == 0 ? 0 : Math.min(j, from);
    return ratio(said, m.first, m.last, ins(m), what == 0 ? -moved : moved);
  }

  private int saidBy(String law, int age, int knows, int draw, int s) {
    int v = ModelText.value(law, age, knows, draw, s, line);
    return v < 0 ? 0 : v > 99 ? 99 : v;
  }

  private static boolean knowSort(int ks) {
    return in(ks, 0, 1009) && in(ks / 10, 0, 100) && in(ks % 10, 0, 3);
  }

  int land(int list, int law, int n, int ks, int seed) {
    if (!has(lists, list) || !has(laws, law) || !in(n, 1, 400) || !knowSort(ks)) return BAD;
    z = seed;
    for (int i = 0; i < n; i++) {
      int age = next(100);
      int knows = next(100) < ks / 10 ? 1 : 0;
      comes(lists.get(list), saidBy(laws.get(law), age, knows, next(100), ks % 10));
    }
    return n;
  }

  int says(int law, int age, int kz) {
    if (!has(laws, law) || !in(age, 0, 99) || !in(kz, 0, 1993) || kz % 10 > 3) return BAD;
    return saidBy(laws.get(law), age, kz / 1000, kz % 1000 / 10, kz % 10);
  }

  /** Millionths by true AGE (first) and by what is said. */
  private long[][] millionths(String law, int ks) {
    long[][] table = new long[100][100];
    for (int age = 0; age < 100; age++) {
      for (int draw = 0; draw < 100; draw++) {
        table[age][saidBy(law, age, 1, draw, ks % 10)] += ks / 10;
        table[age][saidBy(law, age, 0, draw, ks % 10)] += 100 - ks / 10;
      }
    }
    return table;
  }

  int truly(int law, int age, int ks, int what) {
    if (!has(laws, law) || !in(age, 0, 99) || !knowSort(ks) || !in(what, 0, 1)) return BAD;
    long[][] table = millionths(laws.get(law), ks);
    long sum = 0;
    int likeliest = 0;
    for (int t = 0; t < 100; t++) {
      sum += table[t][age];
      if (table[t][age] > table[likeliest][age]) likeliest = t;
    }
    if (sum == 0) return NOT;
    return what == 1 ? likeliest : cut(1000 * table[age][age], sum);
  }

  int fits(int list, int law, int ks) {
    if (!has(lists, list) || !has(laws, law) || !knowSort(ks)) return BAD;
    long[][] table = millionths(laws.get(law), ks);
    int all = of(list, 100);
    BigInteger sum = BigInteger.ZERO;
    for (int age = 0; age < 100; age++) {
      long expected = 0;
      for (int t = 0; t < 100; t++) expected += table[t][age];
      sum = sum.add(BigInteger.valueOf(lists.get(list).said[age] * 1000000L)
          .subtract(BigInteger.valueOf(expected).multiply(BigInteger.valueOf(all))).abs());
    }
    return sum.divide(BigInteger.valueOf(1000000)).intValueExact();
  }

  int best(int list, int ks, int what) {
    if (!has(lists, list) || !knowSort(ks) || !in(what, 0, 1)) return BAD;
    if (laws.isEmpty()) return STATE;
    int best = 0;
    for (int law = 1; law < laws.size(); law++) {
      if (fits(list, law, ks) < fits(list, best, ks)) best = law;
    }
    return what == 0 ? best : fits(list, best, ks);
  }

  int pair(int ft, int years) {
    if (!in(ft, 0, 9999) || !in(years, 0, 60)) return BAD;
    if (pairs.size() == 60) return FULL;
    pairs.add(new int[] {ft / 100, ft % 100, years});
    return pairs.size() - 1;
  }

  int goes(int sort) {
    if (!in(sort, 0, 3)) return BAD;
    int many = 0;
    for (int[] p : pairs) {
      int goes = p[1] - p[0];
      int is = goes == 0 && p[2] > 0 ? 0 : goes < p[2] ? 1 : goes == p[2] ? 2 : 3;
      if (is == sort) many++;
    }
    return many;
  }

  int mean() {
    long goes = 0, years = 0;
    for (int[] p : pairs) {
      goes += p[1] - p[0];
      years += p[2];
    }
    return years == 0 ? VOID : cut(1000 * goes, years);
  }

  int line(int v) {
    if (!in(v, 0, 99)) return BAD;
    int was = line;
    line = v;
    return was;
  }

  int turned() {
    int many = 0;
    for (int[] p : pairs) if (Math.max(p[0], p[1]) < line && p[0] + p[2] >= line) many++;
    return many;
  }

  int side(int list, int w) {
    if (!has(lists, list) || !in(w, 1, 10)) return BAD;
    int[] two = new int[2];
    for (int a = 0; a < 100; a++) {
      if (a >= line - w && a < line) two[0] += lists.get(list).said[a];
      if (a >= line && a < line + w) two[1] += lists.get(list).said[a];
    }
    return two[0] + two[1] == 0 ? NOT : cut(1000L * two[0], two[0] + two[1]);
  }

  private boolean two(int lo) {
    return in(lo, 0, 99) && lo / 10 != lo % 10 && has(lists, lo / 10) && has(lists, lo % 10);
  }

  private static int apartOf(int[] one, int[] other, int b) {
    int sum = 0;
    for (int f = 0; f < 10; f++) sum += Math.abs(shareOf(one, b, f) - shareOf(other, b, f));
    return sum / 2;
  }

  int apart(int lo, int b) {
    if (!two(lo) || !between(b)) return BAD;
    int[] one = lists.get(lo / 10).said;
    int[] other = lists.get(lo % 10).said;
    return all(one, b) == 0 || all(other, b) == 0 ? NOT : apartOf(one, other, b);
  }

  int drawn(int lo, int b, int seed, int n) {
    if (!two(lo) || !between(b) || !in(n, 1, 50)) return BAD;
    int[] one = lists.get(lo / 10).said;
    int[] other = lists.get(lo % 10).said;
    if (all(one, b) + all(other, b) > 2000) return BIG;
    if (all(one, b) == 0 || all(other, b) == 0) return NOT;
    List<Integer> people = new ArrayList<>();
    for (int[] said : List.of(one, other)) {
      for (int a = b / 100; a <= b % 100; a++) for (int i = 0; i < said[a]; i++) people.add(a);
    }
    z = seed;
    int often = 0;
    for (int t = 0; t < n; t++) {
      int[][] anew = new int[2][100];
      int places = all(one, b);
      for (int i = 0; i < people.size(); i++) {
        boolean first = next(people.size() - i) < places;
        places -= first ? 1 : 0;
        anew[first ? 0 : 1][people.get(i)]++;
      }
      if (apartOf(anew[0], anew[1], b) >= apartOf(one, other, b)) often++;
    }
    return often;
  }

  int years(int measure) {
    if (!has(measures, measure)) return VOID;
    List<long[]> points = new ArrayList<>();
    for (ListOf l : lists) {
      int v = ratio(l.said, measures.get(measure));
      if (v != VOID) points.add(new long[] {l.year, v});
    }
    // By all pairs: the same slope, summed otherwise.
    long up = 0, along = 0;
    for (long[] p : points) {
      for (long[] q : points) {
        up += (p[0] - q[0]) * (p[1] - q[1]);
        along += (p[0] - q[0]) * (p[0] - q[0]);
      }
    }
    return along == 0 ? NOT : cut(1000 * up, along);
  }

  int beside(int measure) {
    if (!has(measures, measure)) return VOID;
    int sum = 0;
    for (ListOf p : lists) {
      for (ListOf q : lists) {
        int one = ratio(p.said, measures.get(measure));
        int other = ratio(q.said, measures.get(measure));
        if (one != VOID && other != VOID && one < other) sum += Integer.signum(p.signed - q.signed);
      }
    }
    return sum;
  }

  int body(int kind) {
    if (!in(kind, 0, 7)) return BAD;
    if (kinds.size() == 50) return FULL;
    kinds.add(kind);
    return kinds.size() - 1;
  }

  private static final int[] ABOVE = {-1, 0, 0, 2, 1, 0, 5, 2};
  // Bodies by KIND (row) and ACT: 0 where it has none of its own; what SAYING has from its interfaces stands with it.
  private static final int[][] BODIES = {
    {1, 10, 11, 2}, {20, 0, 0, 0}, {0, 30, 0, 0}, {0, 0, 40, 0}, {0, 0, 0, 50}, {60, 0, 0, 0}, {0, 0, 70, 0},
    {0, 80, 0, 81},
  };

  private int run(int n, int kind, int act, int x) {
    int k = kind;
    while (BODIES[k][act] == 0) k = ABOVE[k];
    int own = kinds.get(n);
    int up = ABOVE[k];
    trace.add(BODIES[k][act]);
    switch (BODIES[k][act]) {
      case 1: return x + n;
      case 10: return run(n, own, 0, x) * 2;
      case 11: return x ^ n;
      case 2: {
        int says = run(n, own, 1, x);
        return says - run(n, own, 2, 1);
      }
      case 20: return run(n, up, 0, x) + 3;
      case 30: return -run(n, up, 1, x);
      case 40: return run(n, up, 2, x) * 3;
      case 50: return run(n, up, 3, x) ^ 5;
      case 60: return run(n, up, 0, x + 1);
      case 70: {
        int writes = run(n, up, 2, x);
        return writes + run(n, own, 0, 2);
      }
      case 80: {
        int says = run(n, up, 1, x);
        return says - run(n, own, 2, 2);
      }
      default: return run(n, up, 3, x) * 2;
    }
  }

  int act(int body, int act, int x) {
    trace.clear();
    return has(kinds, body) && in(act, 0, 3) ? run(body, kinds.get(body), act, x) : 0;
  }

  int trace(int i) {
    return in(i, 0, 23) && i < trace.size() ? trace.get(i) : BAD;
  }

  int keep(int shelf, int body) {
    if (!in(shelf, 0, 5) || body != -1 && !has(kinds, body)) return BAD;
    shelves[shelf] = body == -1 ? null : Integer.valueOf(body);
    return 1;
  }

  int row(int shelf, int sort, int n) {
    if (!in(shelf, 0, 5) || !in(sort, 0, 4) || n > 60) return BAD;
    if (n < 0) return -14;
    shelves[shelf] = sort == 0 ? new byte[n] : sort == 1 ? new short[n] : sort == 2 ? new int[n]
        : sort == 3 ? new long[n] : new boolean[n];
    return 1;
  }

  int put(int shelf, int i, long v) {
    if (!in(shelf, 0, 5)) return BAD;
    Object o = shelves[shelf];
    if (o == null) return -11;
    try {
      if (o instanceof byte[] r) r[i] = (byte) v;
      else if (o instanceof short[] r) r[i] = (short) v;
      else if (o instanceof int[] r) r[i] = (int) v;
      else if (o instanceof long[] r) r[i] = v;
      else if (o instanceof boolean[] r) r[i] = v != 0;
      else return -12;
    } catch (ArrayIndexOutOfBoundsException e) {
      return -13;
    }
    return 1;
  }

  long element(int shelf, int i) {
    if (!in(shelf, 0, 5) || shelves[shelf] == null) return Long.MIN_VALUE;
    Object o = shelves[shelf];
    try {
      if (o instanceof byte[] r) return r[i];
      if (o instanceof short[] r) return r[i];
      if (o instanceof int[] r) return r[i];
      if (o instanceof long[] r) return r[i];
      if (o instanceof boolean[] r) return r[i] ? 1 : 0;
    } catch (ArrayIndexOutOfBoundsException e) {
      return Long.MIN_VALUE;
    }
    return Long.MIN_VALUE;
  }

  int shift(int shelf, int i, int other, int j, int n) {
    if (!in(shelf, 0, 5) || !in(other, 0, 5)) return BAD;
    if (shelves[shelf] == null || shelves[other] == null) return -11;
    try {
      System.arraycopy(shelves[shelf], i, shelves[other], j, n);
    } catch (ArrayStoreException e) {
      return -12;
    } catch (IndexOutOfBoundsException e) {
      return -13;
    }
    return n;
  }

  int taken(int shelf, int k) {
    if (!in(shelf, 0, 5) || !in(k, 0, 7)) return BAD;
    if (shelves[shelf] == null) return -11;
    if (!(shelves[shelf] instanceof Integer body)) return -12;
    for (int kind = kinds.get(body); kind >= 0; kind = ABOVE[kind]) if (kind == k) return kinds.get(body);
    return -12;
  }

  int count(int what) {
    if (!in(what, 0, 7)) return BAD;
    return new int[] {lists.size(), measures.size(), laws.size(), tape.length(), pairs.size(), done.size(),
        kinds.size(), trace.size()}[what];
  }
}
