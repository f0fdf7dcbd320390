/** Promises 35 to 44: sayings as bodies, their acts, shelves, counts. */
public final class ActsTest {
  private static final Due due = new Due("ActsTest");

  public static void main(String[] args) {
    body();
    acts();
    traces();
    keep();
    row();
    put();
    shift();
    taken();
    count();
    due.end();
  }

  private static void body() {
    NoughtFive x = new NoughtFive();
    due.is("body(-1)", x.body(-1), -1);
    due.is("body(8)", x.body(8), -1);
    for (int i = 0; i < 50; i++) {
      due.is("body " + i, x.body(i % 8), i);
    }
    due.is("one more", x.body(0), -3);
    due.is("bad ahead of full", x.body(8), -1);
    due.is("sayings", x.count(6), 50);
    due.is("the last one is of kind 1", x.keep(0, 49), 1);
    due.is("taken for kind 1", x.taken(0, 1), 1);
  }

  /** What each KIND (its number is its KIND too) answers to knows, says, writes, tells with 10. */
  private static void acts() {
    int[][] want = {
      {10, 20, 10, 20 - 1},
      {10 + 1 + 3, 28, 10 ^ 1, 28 - (1 ^ 1)},
      {12, -24, 10 ^ 2, -24 - (1 ^ 2)},
      {13, -26, (10 ^ 3) * 3, -26 - (1 ^ 3) * 3},
      {10 + 4 + 3, 34, 10 ^ 4, 34 - (1 ^ 4) ^ 5},
      {11 + 5, 32, 10 ^ 5, 32 - (1 ^ 5)},
      {11 + 6, 34, (10 ^ 6) + (3 + 6), 34 - ((1 ^ 6) + (3 + 6))},
      {17, -34 - (2 ^ 7), 10 ^ 7, (-34 - (2 ^ 7) - (1 ^ 7)) * 2},
    };
    NoughtFive x = new NoughtFive();
    for (int kind = 0; kind < 8; kind++) {
      x.body(kind);
    }
    for (int kind = 0; kind < 8; kind++) {
      for (int act = 0; act < 4; act++) {
        due.is("act " + act + " of kind " + kind, x.act(kind, act, 10), want[kind][act]);
      }
    }
    due.is("ints wrap", x.act(0, 1, 1 << 30), Integer.MIN_VALUE);
    due.is("ints wrap", x.act(1, 0, Integer.MAX_VALUE), Integer.MIN_VALUE + 3);
    due.is("ints wrap", x.act(5, 0, Integer.MAX_VALUE), Integer.MIN_VALUE + 5);
  }

  private static void trace(NoughtFive x, int kind, int act, int... bodies) {
    x.act(kind, act, 10);
    due.is("bodies that ran: act " + act + " of kind " + kind, x.count(7), bodies.length);
    for (int i = 0; i < bodies.length; i++) {
      due.is("trace " + i + ": act " + act + " of kind " + kind, x.trace(i), bodies[i]);
    }
    due.is("no more: act " + act + " of kind " + kind, x.trace(bodies.length), -1);
  }

  private static void traces() {
    NoughtFive x = new NoughtFive();
    due.is("none yet", x.trace(0), -1);
    for (int kind = 0; kind < 8; kind++) {
      x.body(kind);
    }
    trace(x, 0, 0, 1);
    trace(x, 0, 1, 10, 1);
    trace(x, 0, 2, 11);
    trace(x, 0, 3, 2, 10, 1, 11);
    trace(x, 1, 3, 2, 10, 20, 1, 11);
    trace(x, 2, 3, 2, 30, 10, 1, 11);
    trace(x, 3, 2, 40, 11);
    trace(x, 3, 3, 2, 30, 10, 1, 40, 11);
    trace(x, 4, 3, 50, 2, 10, 20, 1, 11);
    trace(x, 5, 3, 2, 10, 60, 1, 11);
    trace(x, 6, 2, 70, 11, 60, 1);
    trace(x, 6, 3, 2, 10, 60, 1, 70, 11, 60, 1);
    trace(x, 7, 1, 80, 30, 10, 1, 11);
    trace(x, 7, 3, 81, 2, 80, 30, 10, 1, 11, 11);
    due.is("trace(-1)", x.trace(-1), -1);
    due.is("trace(24)", x.trace(24), -1);
    int[][] none = {{8, 0}, {-1, 0}, {0, 4}, {0, -1}, {Integer.MAX_VALUE, 0}};
    for (int[] n : none) {
      x.act(7, 3, 1);
      due.is("act " + n[0] + " " + n[1], x.act(n[0], n[1], 10), 0);
      due.is("no trace then", x.trace(0), -1);
      due.is("no bodies then", x.count(7), 0);
    }
  }

  private static void keep() {
    NoughtFive x = new NoughtFive();
    x.body(3);
    due.is("keep", x.keep(5, 0), 1);
    due.is("holds it", x.taken(5, 0), 3);
    int[][] wrong = {{6, 0}, {-1, 0}, {5, 1}, {5, -2}, {6, -1}};
    for (int[] w : wrong) {
      due.is("keep " + w[0] + " " + w[1], x.keep(w[0], w[1]), -1);
    }
    due.is("still holds it", x.taken(5, 0), 3);
    due.is("keep nothing", x.keep(5, -1), 1);
    due.is("holds nothing", x.taken(5, 0), -11);
  }

  private static void row() {
    NoughtFive x = new NoughtFive();
    int[][] wrong = {{6, 0, 5}, {-1, 0, 5}, {0, 5, 5}, {0, -1, 5}, {0, 0, 61}, {0, 5, -1}, {6, 0, -1}};
    for (int[] w : wrong) {
      due.is("row " + w[0] + " " + w[1] + " " + w[2], x.row(w[0], w[1], w[2]), -1);
    }
    due.is("a size below 0", x.row(0, 0, -1), -14);
    due.is("nothing is there yet", x.put(0, 0, 1), -11);
    due.is("row of 60", x.row(0, 3, 60), 1);
    due.is("the last one", x.put(0, 59, 5), 1);
    due.is("row of none", x.row(0, 3, 0), 1);
    due.is("no place", x.put(0, 0, 5), -13);
    due.is("row again", x.row(0, 3, 60), 1);
    due.is("0 at first", x.element(0, 59), 0);
    due.is("a size below 0 changes nothing", x.row(0, 0, Integer.MIN_VALUE), -14);
    due.is("it holds longs", x.put(0, 0, Long.MIN_VALUE + 1), 1);
    due.is("it holds longs", x.element(0, 0), Long.MIN_VALUE + 1);
  }

  private static void put() {
    NoughtFive x = new NoughtFive();
    long v = 0x123456789abcdef0L;
    long[] low = {(byte) v, (short) v, (int) v, v, 1};
    for (int sort = 0; sort < 5; sort++) {
      x.row(0, sort, 3);
      due.is("put into sort " + sort, x.put(0, 2, v), 1);
      due.is("element of sort " + sort, x.element(0, 2), low[sort]);
      x.put(0, 2, -1);
      due.is("-1 in sort " + sort, x.element(0, 2), sort == 4 ? 1 : -1);
      x.put(0, 1, 1L << 40);
      due.is("a high bit in sort " + sort, x.element(0, 1), sort == 3 ? 1L << 40 : sort == 4 ? 1 : 0);
      x.put(0, 2, 0);
      due.is("0 in sort " + sort, x.element(0, 2), 0);
      due.is("put(0, 3, 1)", x.put(0, 3, 1), -13);
      due.is("put(0, -1, 1)", x.put(0, -1, 1), -13);
      due.is("element(0, 3)", x.element(0, 3), Long.MIN_VALUE);
      due.is("element(0, -1)", x.element(0, -1), Long.MIN_VALUE);
    }
    due.is("put(6, 0, 1)", x.put(6, 0, 1), -1);
    due.is("put(-1, 0, 1)", x.put(-1, 0, 1), -1);
    due.is("put into nothing", x.put(1, 99, 1), -11);
    due.is("element(6, 0)", x.element(6, 0), Long.MIN_VALUE);
    due.is("element(-1, 0)", x.element(-1, 0), Long.MIN_VALUE);
    due.is("element of nothing", x.element(1, 0), Long.MIN_VALUE);
    x.body(0);
    x.keep(1, 0);
    due.is("put into a saying", x.put(1, 99, 1), -12);
    due.is("element of a saying", x.element(1, 0), Long.MIN_VALUE);
  }

  private static void shift() {
    NoughtFive x = new NoughtFive();
    x.row(0, 2, 5);
    x.row(1, 2, 3);
    x.row(2, 3, 5);
    x.body(0);
    x.keep(3, 0);
    for (int i = 0; i < 5; i++) {
      x.put(0, i, i + 1);
    }
    due.is("as they all were, up", x.shift(0, 0, 0, 1, 4), 4);
    int[] up = {1, 1, 2, 3, 4};
    for (int i = 0; i < 5; i++) {
      due.is("up " + i, x.element(0, i), up[i]);
    }
    due.is("as they all were, down", x.shift(0, 1, 0, 0, 4), 4);
    int[] down = {1, 2, 3, 4, 4};
    for (int i = 0; i < 5; i++) {
      due.is("down " + i, x.element(0, i), down[i]);
    }
    due.is("to another", x.shift(0, 1, 1, 0, 3), 3);
    due.is("its last", x.element(1, 2), 4);
    due.is("none of the end", x.shift(0, 5, 1, 3, 0), 0);
    int[][] noPlace = {{0, -1, 1, 0, 1}, {0, 0, 1, -1, 1}, {0, 3, 1, 0, 3}, {0, 0, 1, 1, 3}, {0, 6, 1, 0, 0},
        {0, 0, 1, 4, 0}, {0, 0, 1, 0, -1}, {0, Integer.MAX_VALUE, 1, 0, 1}, {0, 0, 1, Integer.MAX_VALUE, 2},
        {0, 0, 1, 0, Integer.MIN_VALUE}, {0, 1, 0, 1, Integer.MAX_VALUE}};
    for (int[] w : noPlace) {
      String call = "shift " + w[0] + " " + w[1] + " " + w[2] + " " + w[3] + " " + w[4];
      due.is(call, x.shift(w[0], w[1], w[2], w[3], w[4]), -13);
    }
    due.is("shift(6, ..)", x.shift(6, 0, 0, 0, 1), -1);
    due.is("shift(-1, ..)", x.shift(-1, 0, 0, 0, 1), -1);
    due.is("to shelf 6", x.shift(0, 0, 6, 0, 1), -1);
    due.is("to shelf -1", x.shift(4, 0, -1, 0, 1), -1);
    due.is("from nothing", x.shift(4, 0, 0, 0, 1), -11);
    due.is("to nothing", x.shift(0, 0, 4, 0, 1), -11);
    due.is("from a saying to nothing", x.shift(3, 0, 4, 0, 1), -11);
    due.is("from a saying", x.shift(3, 0, 0, 0, 1), -12);
    due.is("to a saying", x.shift(0, 0, 3, 0, 1), -12);
    due.is("a saying to itself", x.shift(3, 0, 3, 0, 0), -12);
    due.is("of unlike sorts", x.shift(0, 0, 2, 0, 99), -12);
    due.is("it stays", x.element(1, 2), 4);
  }

  private static void taken() {
    int[][] under = {{0}, {0, 1}, {0, 2}, {0, 2, 3}, {0, 1, 4}, {0, 5}, {0, 5, 6}, {0, 2, 7}};
    NoughtFive x = new NoughtFive();
    for (int kind = 0; kind < 8; kind++) {
      x.body(kind);
      x.keep(0, kind);
      for (int k = 0; k < 8; k++) {
        int want = -12;
        for (int above : under[kind]) {
          want = above == k ? kind : want;
        }
        due.is("kind " + kind + " taken for " + k, x.taken(0, k), want);
      }
    }
    due.is("taken(0, 8)", x.taken(0, 8), -1);
    due.is("taken(0, -1)", x.taken(0, -1), -1);
    due.is("taken(6, 0)", x.taken(6, 0), -1);
    due.is("taken(-1, 0)", x.taken(-1, 0), -1);
    due.is("nothing is there", x.taken(1, 0), -11);
    x.row(1, 0, 5);
    due.is("a row", x.taken(1, 0), -12);
  }

  private static void count() {
    NoughtFive x = new NoughtFive();
    x.list(0, 0);
    x.list(0, 0);
    Due.measure(x, "a", 99);
    Due.law(x, "a");
    Due.law(x, "u");
    Due.law(x, "f");
    Due.feed(x, "aufw");
    for (int i = 0; i < 5; i++) {
      x.pair(0, 0);
      x.say(0, i, 1);
    }
    x.say(0, 5, 1);
    for (int i = 0; i < 7; i++) {
      x.body(7);
    }
    x.act(0, 3, 1);
    int[] want = {2, 1, 3, 4, 5, 6, 7, 8};
    for (int i = 0; i < 8; i++) {
      due.is("count(" + i + ")", x.count(i), want[i]);
    }
    due.is("count(-1)", x.count(-1), -1);
    due.is("count(8)", x.count(8), -1);
  }
}
