/** Promises 23 to 34: pairs, lines, clerks, years, changes. */
public final class PairsTest {
  private static final Due due = new Due("PairsTest");
  private static final int VOID = NoughtFive.VOID;

  public static void main(String[] args) {
    pair();
    goes();
    mean();
    line();
    turned();
    side();
    apart();
    drawn();
    years();
    beside();
    undo();
    changesThatAreKept();
    due.end();
  }

  private static void pair() {
    NoughtFive x = new NoughtFive();
    int[][] wrong = {{-1, 5}, {10000, 5}, {505, -1}, {505, 61}};
    for (int[] w : wrong) {
      due.is("pair " + w[0] + " " + w[1], x.pair(w[0], w[1]), -1);
    }
    for (int i = 0; i < 60; i++) {
      due.is("pair " + i, x.pair(9999 - i, i == 0 ? 60 : 0), i);
    }
    due.is("one more", x.pair(0, 0), -3);
    due.is("bad ahead of full", x.pair(10000, 0), -1);
    due.is("pairs", x.count(4), 60);
  }

  private static void goes() {
    NoughtFive x = new NoughtFive();
    int[][] pairs = {{4040, 10}, {4049, 10}, {3020, 10}, {3040, 10}, {3030, 0}, {3041, 10}, {3031, 0}, {3029, 0}};
    for (int[] p : pairs) {
      x.pair(p[0], p[1]);
    }
    due.is("stays", x.goes(0), 1);
    due.is("short", x.goes(1), 3);
    due.is("true", x.goes(2), 2);
    due.is("long", x.goes(3), 2);
    due.is("goes(4)", x.goes(4), -1);
    due.is("goes(-1)", x.goes(-1), -1);
  }

  private static void mean() {
    NoughtFive x = new NoughtFive();
    due.is("no pairs", x.mean(), VOID);
    x.pair(4045, 0);
    due.is("no years", x.mean(), VOID);
    x.pair(4042, 9);
    due.is("7 by 9", x.mean(), 777);
    x.pair(9070, 0);
    due.is("-13 by 9, cut", x.mean(), -1444);
  }

  private static void line() {
    NoughtFive x = new NoughtFive();
    due.is("0 at first", x.line(99), 0);
    due.is("line(100)", x.line(100), -1);
    due.is("line(-1)", x.line(-1), -1);
    due.is("what it was", x.line(0), 99);
    due.is("what it was", x.line(0), 0);
  }

  private static void turned() {
    NoughtFive x = new NoughtFive();
    int[][] pairs = {{3839, 5}, {3839, 1}, {3839, 2}, {3840, 5}, {4039, 5}, {3900, 60}};
    for (int[] p : pairs) {
      x.pair(p[0], p[1]);
    }
    due.is("at 0", x.turned(), 0);
    x.line(40);
    due.is("at 40", x.turned(), 3);
    x.line(41);
    due.is("at 41", x.turned(), 4);
    x.line(99);
    due.is("at 99", x.turned(), 1);
  }

  private static void side() {
    NoughtFive x = new NoughtFive();
    x.list(0, 0);
    int[][] said = {{0, 5}, {9, 7}, {10, 2}, {19, 3}, {39, 4}, {40, 9}, {49, 1}, {50, 8}, {89, 6}, {99, 2}};
    for (int[] s : said) {
      x.say(0, s[0], s[1]);
    }
    x.line(40);
    due.is("39 against 40", x.side(0, 1), 1000 * 4 / 13);
    due.is("30 .. 39 against 40 .. 49", x.side(0, 10), 1000 * 4 / 14);
    x.line(0);
    due.is("at 0", x.side(0, 10), 0);
    x.line(1);
    due.is("at 1, within", x.side(0, 10), 1000 * 5 / (5 + 7 + 2));
    x.line(99);
    due.is("at 99, within", x.side(0, 10), 1000 * 6 / 8);
    x.line(30);
    due.is("none", x.side(0, 5), -2);
    int[][] wrong = {{1, 5}, {-1, 5}, {0, 0}, {0, 11}};
    for (int[] w : wrong) {
      due.is("side " + w[0] + " " + w[1], x.side(w[0], w[1]), -1);
    }
  }

  /** Two lists: 0 has 3 of 7 with 0 (428), 4 with 5 (571); 1 has 2 of 3 with 0 (666), 1 with 1 (333). */
  private static NoughtFive two() {
    NoughtFive x = new NoughtFive();
    x.list(0, 0);
    x.list(0, 0);
    x.list(0, 0);
    x.say(0, 20, 3);
    x.say(0, 25, 4);
    x.say(1, 30, 2);
    x.say(1, 31, 1);
    x.say(1, 50, 9);
    return x;
  }

  private static final int[][] WRONG_TWO = {{0, 99}, {11, 99}, {3, 99}, {30, 99}, {-1, 99}, {100, 99}, {1, 10000}, {1, -1},
      {1, 3520}};

  private static void apart() {
    NoughtFive x = two();
    due.is("apart", x.apart(1, 2040), (238 + 333 + 571) / 2);
    due.is("the other way", x.apart(10, 2040), 571);
    due.is("none in the other", x.apart(1, 2029), -2);
    due.is("none in the first", x.apart(1, 3040), -2);
    due.is("none in either", x.apart(21, 1019), -2);
    for (int[] w : WRONG_TWO) {
      due.is("apart " + w[0] + " " + w[1], x.apart(w[0], w[1]), -1);
    }
  }

  private static void drawn() {
    NoughtFive x = two();
    due.is("none in the other", x.drawn(1, 2029, 1, 1), -2);
    due.is("n 0", x.drawn(1, 2040, 1, 0), -1);
    due.is("n 51", x.drawn(1, 2040, 1, 51), -1);
    for (int[] w : WRONG_TWO) {
      due.is("drawn " + w[0] + " " + w[1], x.drawn(w[0], w[1], 1, 1), -1);
    }
    for (int seed = 0; seed < 20; seed++) {
      due.is("drawn, seed " + seed, x.drawn(1, 2040, seed, 50), drawnByHand(seed, 50));
    }
    for (int seed = 0; seed < 20; seed++) {
      due.is("drawn from edge to edge, seed " + seed, x.drawn(1, 2031, seed, 50), drawnByHand(seed, 50));
    }
    x.say(0, 99, 1);
    x.say(1, 99, 1);
    due.is("the last age", x.drawn(1, 9999, 1, 3), 3);
    x.say(0, 60, 5);
    x.say(2, 60, 1995);
    due.is("2000 are few enough", x.drawn(2, 6060, 3, 4), 4);
    x.say(2, 60, 1996);
    due.is("2001 are too many", x.drawn(2, 6060, 3, 4), -4);
    x.say(2, 61, 2000);
    due.is("2000 against none", x.drawn(2, 6161, 3, 4), -2);
    x.say(2, 61, 2001);
    due.is("too many, ahead of none in the first", x.drawn(2, 6161, 3, 4), -4);
    due.is("too many, ahead of none in the other", x.drawn(20, 6161, 3, 4), -4);
    due.is("bad ahead of too many", x.drawn(2, 6161, 3, 51), -1);
    due.is("apart knows no too many", x.apart(2, 6161), -2);
  }

  /** The ten people of two(), drawn about; 571 or more is as much apart. */
  private static int drawnByHand(int seed, int n) {
    int[] ends = {0, 0, 0, 5, 5, 5, 5, 0, 0, 1};
    int z = seed;
    int often = 0;
    for (int i = 0; i < n; i++) {
      int[][] to = new int[2][10];
      int places = 7;
      for (int p = 0; p < 10; p++) {
        z = z * 1103515245 + 12345;
        boolean first = (z >>> 8) % (10 - p) < places;
        places -= first ? 1 : 0;
        to[first ? 0 : 1][ends[p]]++;
      }
      int sum = 0;
      for (int d = 0; d < 10; d++) {
        sum += Math.abs(1000 * to[0][d] / 7 - 1000 * to[1][d] / 3);
      }
      often += sum / 2 >= 571 ? 1 : 0;
    }
    return often;
  }

  private static void years() {
    NoughtFive x = new NoughtFive();
    Due.measure(x, "a=0", 9);
    due.is("no lists", x.years(0), -2);
    due.is("no measure", x.years(1), VOID);
    due.is("no measure", x.years(-1), VOID);
    for (int i = 0; i < 4; i++) {
      x.list(1800 + 10 * i, 0);
    }
    x.say(0, 0, 1);
    due.is("one only", x.years(0), -2);
    x.say(1, 0, 1);
    x.say(1, 1, 1);
    due.is("100000 and 50000 in ten years", x.years(0), -5000000);
    x.say(3, 0, 1);
    x.say(3, 1, 2);
    // 100000, 50000, 33333 in 1800, 1810, 1830; 1820 is VOID and left out.
    due.is("three", x.years(0), 1000L * (3 * (10 * 50000L + 30 * 33333L) - 40L * 183333) / (3 * 1000 - 1600));
    x.mark(1, 0, 1800);
    x.mark(3, 0, 1800);
    due.is("all of one year", x.years(0), -2);
    x.mark(0, 0, 0);
    x.mark(1, 0, 9999);
    x.mark(3, 0, 9999);
    due.is("cut", x.years(0), -((100000L - 41666) * 1000) / 9999 - 0);
  }

  private static void beside() {
    NoughtFive x = new NoughtFive();
    Due.measure(x, "a=0", 9);
    due.is("no measure", x.beside(1), VOID);
    due.is("no measure", x.beside(-1), VOID);
    due.is("no lists", x.beside(0), 0);
    for (int i = 0; i < 3; i++) {
      x.list(0, 100 * i);
      x.say(i, 0, 5);
      x.say(i, 1, 5 * i);
    }
    due.is("all the other way", x.beside(0), 3);
    x.mark(1, 1, 1000);
    due.is("one the same way", x.beside(0), 1);
    x.mark(1, 1, 200);
    due.is("alike signed: neither", x.beside(0), 2);
    x.say(1, 1, 10);
    x.mark(1, 1, 150);
    due.is("alike measures: neither", x.beside(0), 2);
    x.mark(0, 1, 1000);
    due.is("all the same way", x.beside(0), -2);
    x.list(0, 1);
    due.is("void is left out", x.beside(0), -2);
  }

  private static void undo() {
    NoughtFive x = new NoughtFive();
    due.is("none to undo", x.undo(), -5);
    due.is("none to redo", x.redo(), -5);
    x.list(1800, 10);
    due.is("a list is no change", x.undo(), -5);
    x.say(0, 5, 7);
    x.say(0, 5, 7);
    x.mark(0, 0, 1900);
    x.mark(0, 0, 1900);
    x.mark(0, 1, 20);
    x.say(0, 100, 7);
    due.is("three changes", x.count(5), 3);
    due.is("signed undone", x.undo(), 2);
    due.is("signed", x.of(0, 102), 10);
    due.is("year undone", x.undo(), 1);
    due.is("year", x.of(0, 101), 1800);
    due.is("count undone", x.undo(), 0);
    due.is("count", x.of(0, 5), 0);
    due.is("no more", x.undo(), -5);
    due.is("count again", x.redo(), 2);
    due.is("count", x.of(0, 5), 7);
    due.is("year again", x.redo(), 1);
    due.is("year", x.of(0, 101), 1900);
    x.say(0, 5, 7);
    x.mark(0, 1, 10);
    x.say(0, 5, 10000);
    due.is("what is none cuts nothing off", x.redo(), 0);
    due.is("signed", x.of(0, 102), 20);
    due.is("no more to redo", x.redo(), -5);
    x.undo();
    x.undo();
    x.say(0, 6, 1);
    due.is("another came behind", x.redo(), -5);
    due.is("two may be undone", x.count(5), 2);
    due.is("the new one undone", x.undo(), 1);
    due.is("count of 6", x.of(0, 6), 0);
    due.is("count of 5", x.of(0, 5), 7);
  }

  private static void changesThatAreKept() {
    NoughtFive x = new NoughtFive();
    x.list(0, 0);
    for (int i = 1; i <= 45; i++) {
      x.say(0, 3, i);
      due.is("changes after " + i, x.count(5), Math.min(i, 40));
    }
    for (int i = 39; i >= 0; i--) {
      due.is("undo to " + i, x.undo(), i);
      due.is("count", x.of(0, 3), i + 5);
    }
    due.is("no more", x.undo(), -5);
    for (int i = 39; i >= 0; i--) {
      due.is("redo to " + i, x.redo(), i);
      due.is("count", x.of(0, 3), 45 - i);
    }
    due.is("no more", x.redo(), -5);
  }
}
