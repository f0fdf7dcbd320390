/** Promises 12 to 17: ends, what is counted by, chance, mended. */
public final class EndsTest {
  private static final Due due = new Due("EndsTest");
  private static final int VOID = NoughtFive.VOID;

  public static void main(String[] args) {
    share();
    off();
    counted();
    by();
    chance();
    mended();
    due.end();
  }

  /** LIST 0: ten between 20 and 35; LIST 1: nobody. */
  private static NoughtFive made() {
    NoughtFive x = new NoughtFive();
    x.list(0, 0);
    x.list(0, 0);
    x.say(0, 20, 3);
    x.say(0, 21, 1);
    x.say(0, 30, 4);
    x.say(0, 35, 2);
    return x;
  }

  private static void share() {
    NoughtFive x = made();
    due.is("of 0", x.share(0, 2035, 0), 700);
    due.is("of 1", x.share(0, 2035, 1), 100);
    due.is("of 5", x.share(0, 2035, 5), 200);
    due.is("of 9", x.share(0, 2035, 9), 0);
    due.is("cut", x.share(0, 2034, 1), 125);
    due.is("cut of 21 .. 35", x.share(0, 2135, 5), 285);
    due.is("none between", x.share(0, 3699, 0), -2);
    due.is("none at all", x.share(1, 99, 0), -2);
    int[][] wrong = {{2, 99, 0}, {-1, 99, 0}, {0, 10000, 0}, {0, -1, 0}, {0, 3520, 0}, {0, 99, 10}, {0, 99, -1}};
    for (int[] w : wrong) {
      due.is("share " + w[0] + " " + w[1] + " " + w[2], x.share(w[0], w[1], w[2]), -1);
    }
    due.is("bad ahead of not", x.share(1, 99, 10), -1);
  }

  private static void off() {
    NoughtFive x = made();
    // 20 counts by one beginning, 21 by two, 30 and 35 by ten: 43, 2, 20 of 65.
    due.is("off", x.off(0, 2035), (561 + 70 + 207 + 7 * 100) / 2);
    due.is("off of one", x.off(0, 2020), 900);
    for (int age = 0; age < 100; age++) {
      x.say(1, age, 10);
    }
    // Each figure d counts 10 - d times by the first ten ages: blended 10 * (90 + d + 1) of 9550.
    int sum = 0;
    for (int d = 0; d < 10; d++) {
      sum += Math.abs(1000 * 10 * (90 + d + 1) / 9550 - 100);
    }
    due.is("off of a smooth list", x.off(1, 99), sum / 2);
    due.is("none", x.off(0, 3699), -2);
    due.is("the last age", x.off(1, 9999), 900);
    int[][] wrong = {{2, 99}, {-1, 99}, {0, 10000}, {0, -1}, {0, 3520}};
    for (int[] w : wrong) {
      due.is("off " + w[0] + " " + w[1], x.off(w[0], w[1]), -1);
    }
  }

  private static void counted() {
    NoughtFive x = made();
    due.is("by 5", x.counted(0, 2035, 500), 36000);
    due.is("by 5 with 1", x.counted(0, 2035, 501), 10000L * 1 * 16 / 30);
    due.is("by 12 with 6", x.counted(0, 2035, 1206), 10000L * 4 * 16 / 10);
    due.is("by 2", x.counted(0, 2035, 200), 10000L * 7 * 16 / 80);
    due.is("by 20 with 19", x.counted(0, 2035, 2019), VOID);
    due.is("none in", x.counted(0, 2021, 502), VOID);
    due.is("none between", x.counted(1, 2035, 500), VOID);
    int[][] wrong = {{2, 99, 500}, {-1, 99, 500}, {0, 10000, 500}, {0, -1, 500}, {0, 3520, 500}, {0, 99, 100},
        {0, 99, 2100}, {0, 99, -500}, {0, 99, 0}, {0, 99, 505}, {0, 99, 599}};
    for (int[] w : wrong) {
      due.is("counted " + w[0] + " " + w[1] + " " + w[2], x.counted(w[0], w[1], w[2]), VOID);
    }
  }

  private static void by() {
    NoughtFive x = made();
    x.say(1, 30, 4);
    due.is("the least m that leaves 30 alone", x.by(1, 2035, 0), 1108);
    due.is("its measure", x.by(1, 2035, 1), 160000);
    due.is("of one age", x.by(1, 3030, 0), 200);
    due.is("its measure", x.by(1, 3030, 1), 10000);
    x.say(1, 31, 4);
    due.is("of like ones the least rest", x.by(1, 3031, 0), 200);
    due.is("none", x.by(1, 3299, 0), -2);
    x.say(1, 90, 1);
    due.is("by 20", x.by(1, 7199, 0), 2010);
    x.say(1, 90, 0);
    due.is("none by measure", x.by(1, 3299, 1), -2);
    int[][] wrong = {{2, 99, 0}, {-1, 99, 0}, {0, 10000, 0}, {0, 3520, 0}, {0, 99, 2}, {0, 99, -1}};
    for (int[] w : wrong) {
      due.is("by " + w[0] + " " + w[1] + " " + w[2], x.by(w[0], w[1], w[2]), -1);
    }
  }

  private static void chance() {
    NoughtFive x = made();
    Due.measure(x, "a=18", 1019);
    Due.measure(x, "a=17", 1019);
    Due.measure(x, "a=99", 1019);
    Due.measure(x, "1", 2035);
    due.is("none between", x.chance(1, 0, 0, 1), -2);
    x.say(1, 18, 1);
    // SEED 0: z is 12345 first, 48 without its last eight bits: AGE 10 and 8.
    due.is("one that says 18 anew", x.chance(1, 0, 0, 1), 1);
    due.is("how often of 50", x.chance(1, 0, 0, 50), drawnEights(50));
    due.is("none says 17: always as great", x.chance(1, 1, 0, 50), 50);
    x.say(1, 18, 0);
    x.say(1, 17, 1);
    due.is("he that said 17 says 18", x.chance(1, 1, 0, 1), 0);
    due.is("none in", x.chance(1, 2, 0, 1), -2);
    x.say(1, 10, 1999);
    due.is("2000 are few enough", x.chance(1, 0, 0, 1), 1);
    due.is("2000, and none in", x.chance(1, 2, 0, 1), -2);
    x.say(1, 10, 2000);
    due.is("2001 are too many", x.chance(1, 0, 0, 1), -4);
    due.is("too many, ahead of none in", x.chance(1, 2, 0, 1), -4);
    due.is("bad ahead of too many", x.chance(1, 2, 0, 51), -1);
    due.is("who is not between does not count", x.chance(1, 3, 0, 1), -2);
    due.is("all in", x.chance(0, 3, 5, 7), 7);
    Due.measure(x, "1", 9999);
    x.say(0, 99, 3);
    due.is("of one age", x.chance(0, 4, 5, 7), 7);
    int[][] wrong = {{2, 0, 1}, {-1, 0, 1}, {0, 5, 1}, {0, -1, 1}, {0, 0, 0}, {0, 0, 51}};
    for (int[] w : wrong) {
      due.is("chance " + w[0] + " " + w[1] + " " + w[2], x.chance(w[0], w[1], 0, w[2]), -1);
    }
  }

  private static int drawnEights(int n) {
    int z = 0;
    int often = 0;
    for (int i = 0; i < n; i++) {
      z = z * 1103515245 + 12345;
      often += (z >>> 8) % 10 == 8 ? 1 : 0;
    }
    return often;
  }

  private static void mended() {
    NoughtFive x = made();
    Due.measure(x, "u=0|u=5", 2035);
    Due.measure(x, "1", 2035);
    Due.measure(x, "0", 2035);
    due.is("nobody moves, least", x.mended(0, 0, 0, 0), 36000);
    due.is("nobody moves, greatest", x.mended(0, 0, 0, 1), 36000);
    due.is("three leave", x.mended(0, 0, 3, 0), 24000);
    due.is("only one can come", x.mended(0, 0, 3, 1), 40000);
    due.is("all leave", x.mended(0, 0, 50, 0), 0);
    due.is("nowhere to go", x.mended(0, 1, 50, 0), 10000);
    due.is("nobody to come", x.mended(0, 1, 50, 1), 10000);
    due.is("none in", x.mended(0, 2, 5, 0), VOID);
    due.is("none between", x.mended(1, 0, 5, 1), VOID);
    int[][] wrong = {{2, 0, 1, 0}, {-1, 0, 1, 0}, {0, 3, 1, 0}, {0, -1, 1, 0}, {0, 0, -1, 0}, {0, 0, 51, 0},
        {0, 0, 1, 2}, {0, 0, 1, -1}};
    for (int[] w : wrong) {
      due.is("mended " + w[0] + " " + w[1] + " " + w[2] + " " + w[3], x.mended(w[0], w[1], w[2], w[3]), VOID);
    }
    due.is("the list stays", x.of(0, 20), 3);
  }
}
