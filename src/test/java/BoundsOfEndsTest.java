/** Section 2, sentence by sentence: the last value that is good, the first that is not; refusals change nothing. */
public final class BoundsOfEndsTest {
  private static final Due due = new Due("BoundsOfEndsTest");

  public static void main(String[] args) {
    share();
    off();
    counted();
    by();
    chance();
    bySeed();
    mended();
    due.end();
  }

  private static void run(String title, String... told) {
    Script.run(due, title, told);
  }

  private static void share() {
    String people = "list 0 0, say 0 39 50, say 0 40 1, say 0 41 1, say 0 49 1, say 0 50 50, ";
    run("a last figure is 0 .. 9", people, "share 0 4049 -1 = BAD, share 0 4049 0 = 333, share 0 4049 9 = 333",
        "share 0 4049 10 = BAD, share 0 4049 MIN = BAD, share 0 4049 MAX = BAD, share 0 4049 40 = BAD");
    run("those between", people, "share 0 4040 0 = 1000, share 0 4041 0 = 500, share 0 4048 9 = 0",
        "share 0 4050 0 = 962, share 0 3949 9 = 962, share 0 4149 0 = 0, share 0 4149 1 = 500");
    run("thousandths (cut)", "list 0 0, say 0 0 1, say 0 11 2, share 0 99 0 = 333, share 0 99 1 = 666, say 0 0 1001",
        "say 0 11 1, share 0 99 0 = 999, share 0 99 1 = 0, say 0 0 999, share 0 99 1 = 1, share 0 99 2 = 0");
    run("NOT: none between", people, "share 0 4248 2 = NOT, share 0 4248 8 = NOT, share 0 4249 2 = 0",
        "share 0 4148 2 = 0, share 0 4242 2 = NOT, share 0 38 0 = NOT, share 0 5199 0 = NOT, share 0 5099 0 = 1000",
        "share 0 39 9 = 1000");
    run("BAD ahead of NOT", people, "share 0 4248 10 = BAD, share 0 4248 -1 = BAD, share 0 4842 0 = BAD",
        "share 1 4248 0 = BAD");
    run("of all, at most", "list 0 0", Script.each("say 0 # 9999", 0, 99), "share 0 99 0 = 100, share 0 99 9 = 100",
        "say 0 9 0, share 0 99 9 = 90, share 0 99 8 = 101, off 0 99 = 12");
  }

  private static void off() {
    run("ten beginnings (first AGE and 0 .. 9)", "list 0 0, say 0 18 1, say 0 20 1, say 0 9 7",
        // 18 by 9 beginnings, 20 by 10: 473 and 526.
        "off 0 1099 = 799, say 0 18 0, say 0 19 1",
        // Both by 10.
        "off 0 1099 = 800, say 0 20 0, say 0 10 1",
        // 10 by 1, 19 by 10: 90 and 909.
        "off 0 1099 = 809");
    run("each to the last AGE", "list 0 0, say 0 10 1, say 0 11 1, say 0 12 1, say 0 13 9, say 0 9 9",
        "off 0 1012 = 699, off 0 1010 = 900, off 0 1011 = 799, off 0 1212 = 900");
    run("size of what is over 100, or under", "list 0 0", Script.each("say 0 # 1", 9, 18), "off 0 19 = 0",
        "off 0 18 = 0, say 0 19 1, off 0 19 = 85, off 0 18 = 0");
    run("NOT: nothing to blend", "list 0 0, off 0 99 = NOT, say 0 19 5, say 0 31 5, off 0 2030 = NOT",
        "off 0 2031 = 900, off 0 1930 = 900, off 0 3131 = 900, off 0 3232 = NOT, off 0 3020 = BAD");
    run("the last AGE", "list 0 0, say 0 99 9999, off 0 9999 = 900, off 0 99 = 900, off 0 9899 = 900",
        "off 0 9898 = NOT");
  }

  private static void counted() {
    String one = "list 0 0, say 0 5 1, ";
    run("m (2 .. 20)", one, "counted 0 99 199 = VOID, counted 0 99 100 = VOID, counted 0 99 101 = VOID",
        "counted 0 99 200 = 0, counted 0 99 201 = 20000, counted 0 99 2005 = 200000, counted 0 99 2000 = 0",
        "counted 0 99 2100 = VOID, counted 0 99 2105 = VOID, counted 0 99 5 = VOID, counted 0 99 0 = VOID",
        "counted 0 99 -1 = VOID, counted 0 99 -201 = VOID, counted 0 99 MIN = VOID, counted 0 99 MAX = VOID");
    StringBuilder rests = new StringBuilder();
    for (int m = 2; m <= 20; m++) {
      int last = 100 * m + m - 1;
      boolean five = 5 % m == m - 1;
      int ages = (99 - (m - 1)) / m + 1;
      rests.append("counted 0 99 " + last + " = " + (five ? 1000000 / ages : 0) + ", ");
      rests.append("counted 0 99 " + (last + 1) + " = VOID, counted 0 99 " + (100 * m + 99) + " = VOID, ");
    }
    run("rest r, below m", one, rests.toString());
    run("AGES are a % m = r", "list 0 0, say 0 19 1, say 0 20 3, counted 0 99 2019 = 50000",
        "counted 0 99 2000 = 150000, counted 0 99 1900 = 41666, counted 0 99 1901 = 125000",
        "counted 0 2020 200 = 10000, counted 0 1920 201 = 5000");
    run("VOID: none between, or none IN", one, "counted 0 4 200 = VOID, counted 0 699 200 = VOID",
        "counted 0 5 200 = 0, counted 0 505 200 = VOID, counted 0 505 201 = 10000, counted 0 506 200 = 0",
        "counted 0 518 2019 = VOID, counted 0 519 2019 = 0, counted 0 519 2004 = VOID");
  }

  private static void by() {
    String one = "list 0 0, say 0 5 1, ";
    run("what 0, 1", one, "by 0 99 -1 = BAD, by 0 99 0 = 1905, by 0 99 1 = 200000, by 0 99 2 = BAD",
        "by 0 99 MIN = BAD, by 0 99 MAX = BAD");
    run("m from 2: not 1", one, "by 0 505 0 = 201, by 0 505 1 = 10000, say 0 6 1, by 0 606 0 = 200",
        "by 0 506 0 = 200, by 0 506 1 = 10000");
    // 90 alone by 20, if 70 is not between; by 11 two of 70 .. 99; by 21 it would be alone.
    run("m to 20", "list 0 0, say 0 90 1, by 0 7199 0 = 2010, by 0 7199 1 = 290000, by 0 7099 0 = 1102",
        "by 0 7099 1 = 150000");
    run("of like ones the least m, then r", "list 0 0, say 0 30 4, by 0 2035 0 = 1108, by 0 2035 1 = 160000",
        "say 0 31 4, by 0 3031 0 = 200, by 0 3031 1 = 10000, by 0 3032 0 = 201, by 0 3032 1 = 15000",
        "by 0 2933 0 = 301, by 0 2933 1 = 25000");
    run("measures that are VOID are left out; NOT", one, "by 0 5 0 = 605, by 0 5 1 = 60000, by 0 4 0 = NOT",
        "by 0 4 1 = NOT, by 0 699 0 = NOT, by 0 404 1 = NOT, by 0 4 2 = BAD, by 0 4 -1 = BAD");
    run("a measure of 0 is none that is VOID", "list 0 0, say 0 5 0, by 0 99 0 = NOT, say 0 5 9999",
        "by 0 99 1 = 200000");
  }

  private static void chance() {
    String one = "list 0 0, say 0 18 1, tape a=18, measure 1019, tape a=17, measure 1019, tape a=20, measure 1019, ";
    run("n times (1 .. 50)", one, "chance 0 1 7 0 = BAD, chance 0 1 7 -1 = BAD, chance 0 1 7 1 = 1",
        "chance 0 1 7 50 = 50, chance 0 1 7 51 = BAD, chance 0 1 7 MIN = BAD, chance 0 1 7 MAX = BAD");
    run("who is not between counts for nothing", one, "say 0 9 9999, say 0 20 9999, chance 0 0 0 1 = 1",
        "chance 0 1 0 50 = 50");
    run("at most 2000 people between", "list 0 0, list 0 0, tape 1, measure 1019, say 0 10 2000, chance 0 0 1 1 = 1",
        "say 0 19 1, chance 0 0 1 1 = BIG, say 0 10 1999, chance 0 0 1 1 = 1, say 0 9 9999, say 0 20 9999",
        "chance 0 0 1 1 = 1, say 0 15 1, chance 0 0 1 1 = BIG, chance 0 0 1 0 = BAD, chance 0 0 1 51 = BAD",
        "chance 1 0 1 1 = NOT");
    run("NOT: the MEASURE is VOID", one, "chance 0 2 7 1 = NOT, say 0 18 0, chance 0 0 7 1 = NOT",
        "chance 0 1 7 50 = NOT, chance 0 2 7 51 = BAD, say 0 9 5, say 0 20 5, chance 0 0 7 1 = NOT, say 0 10 1",
        "chance 0 0 7 1 = 1, say 0 10 0, say 0 19 1, chance 0 0 7 1 = 1");
    run("BIG ahead of NOT", "list 0 0, tape 0, measure 99, say 0 0 2001, chance 0 0 7 1 = BIG, say 0 0 2000",
        "chance 0 0 7 1 = NOT");
    run("of one AGE", "list 0 0, say 0 99 2000, tape 1, measure 9999, chance 0 0 7 50 = 50, say 0 0 1, tape 1",
        "measure 0, chance 0 1 MIN 50 = 50");
  }

  /** Those who say 10 and 19 laid anew, by SEEDS from end to end: how often two or more say 17. */
  private static void bySeed() {
    int[] seeds = {Integer.MIN_VALUE, Integer.MIN_VALUE + 1, -1, 0, 1, 12345, Integer.MAX_VALUE};
    for (int seed : seeds) {
      int z = seed;
      int often = 0;
      StringBuilder firsts = new StringBuilder();
      for (int n = 1; n <= 50; n++) {
        int sevens = 0;
        for (int i = 0; i < 5; i++) {
          z = z * 1103515245 + 12345;
          sevens += (z >>> 8) % 10 == 7 ? 1 : 0;
        }
        often += sevens >= 1 ? 1 : 0;
        firsts.append("chance 0 0 " + seed + " " + n + " = " + often + ", ");
      }
      run("BY CHANCE, SEED " + seed, "list 0 0, say 0 10 3, say 0 17 1, say 0 19 1, tape a=17, measure 1019",
          firsts.toString());
    }
  }

  private static void mended() {
    String people = "list 0 0, say 0 20 100, say 0 21 60, say 0 29 40, say 0 19 500, say 0 30 500, ";
    run("j (0 .. 50)", people, "tape u=0, measure 2029, mended 0 0 -1 0 = VOID, mended 0 0 -1 1 = VOID",
        "mended 0 0 0 0 = 50000, mended 0 0 0 1 = 50000, mended 0 0 1 0 = 49500, mended 0 0 1 1 = 50500",
        "mended 0 0 50 0 = 25000, mended 0 0 50 1 = 75000, mended 0 0 51 0 = VOID, mended 0 0 51 1 = VOID",
        "mended 0 0 MIN 0 = VOID, mended 0 0 MAX 1 = VOID, of 0 20 = 100, of 0 21 = 60");
    run("the least (what 0), greatest (1)", people, "tape u=0, measure 2029, mended 0 0 5 -1 = VOID",
        "mended 0 0 5 2 = VOID, mended 0 0 5 MIN = VOID, mended 0 0 5 MAX = VOID, mended 0 0 5 0 = 47500",
        "mended 0 0 5 1 = 52500");
    run("no more than there are", "list 0 0, say 0 20 3, say 0 21 2, say 0 30 9, tape u=0, measure 2029",
        "mended 0 0 2 0 = 20000, mended 0 0 3 0 = 0, mended 0 0 4 0 = 0, mended 0 0 50 0 = 0",
        "mended 0 0 1 1 = 80000, mended 0 0 2 1 = 100000, mended 0 0 3 1 = 100000, mended 0 0 50 1 = 100000");
    run("all IN: nobody can go, none can come", people, "tape 1, measure 2029, mended 0 0 50 0 = 10000",
        "mended 0 0 50 1 = 10000, tape a=20, measure 2020, mended 0 1 50 0 = 10000, mended 0 1 50 1 = 10000");
    run("all but one IN", people, "tape a<29, measure 2029, mended 0 0 50 0 = 6111, mended 0 0 50 1 = 11111",
        "mended 0 0 40 1 = 11111, mended 0 0 39 1 = 11055");
    run("VOID: none between, or none IN", people, "tape 0, measure 2029, mended 0 0 5 0 = VOID",
        "mended 0 0 5 1 = VOID, tape 1, measure 2228, mended 0 1 5 0 = VOID, mended 0 1 5 1 = VOID, tape a=22",
        "measure 2129, mended 0 2 5 0 = 0, mended 0 2 0 1 = 0, mended 0 2 5 1 = 4500");
  }
}
