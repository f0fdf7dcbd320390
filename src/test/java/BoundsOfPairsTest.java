/** Section 4, sentence by sentence: the last value that is good, the first that is not; refusals change nothing. */
public final class BoundsOfPairsTest {
  private static final Due due = new Due("BoundsOfPairsTest");

  public static void main(String[] args) {
    pair();
    goes();
    mean();
    line();
    turned();
    side();
    apart();
    drawn();
    drawnBySeed();
    years();
    beside();
    changes();
    doneAgain();
    changesThatAreKept();
    due.end();
  }

  private static void run(String title, String... told) {
    Script.run(due, title, told);
  }

  private static void pair() {
    run("AGES of a PAIR", "pair -1 5 = BAD, pair 10000 5 = BAD, pair MIN 5 = BAD, pair MAX 5 = BAD",
        "pair -101 5 = BAD, count 4 = 0, pair 0 0 = 0, pair 9999 0 = 1, pair 99 60 = 2, pair 9900 60 = 3",
        "count 4 = 4, mean = 0");
    run("YEARS between (0 .. 60)", "pair 4040 -1 = BAD, pair 4040 61 = BAD, pair 4040 MIN = BAD",
        "pair 4040 MAX = BAD, count 4 = 0, pair 4040 0 = 0, pair 4040 60 = 1, pair 4040 61 = BAD, count 4 = 2",
        "goes 0 = 1, goes 2 = 1");
    run("PAIRS 0 .. 59", Script.each("pair 4040 10 = #", 0, 58), "pair 4050 10 = 59, pair 4040 10 = FULL",
        "pair 0 0 = FULL, pair 10000 0 = BAD, pair 0 61 = BAD, count 4 = 60, goes 0 = 59, goes 2 = 1, mean = 16");
  }

  private static void goes() {
    run("of a sort (0 .. 3)", "goes -1 = BAD, goes 0 = 0, goes 3 = 0, goes 4 = BAD, goes MIN = BAD, goes MAX = BAD");
    run("STAYS: GOES is 0 (with YEARS above 0)", "pair 4040 1, goes 0 = 1, pair 4040 60, goes 0 = 2, pair 4040 0",
        "goes 0 = 2, pair 4041 2, pair 4140 2, goes 0 = 2, goes 2 = 1, goes 1 = 2, goes 3 = 0");
    run("SHORT: less than YEARS, not 0", "pair 4041 2, goes 1 = 1, pair 4041 1, goes 1 = 1, pair 4039 0, goes 1 = 2",
        "pair 4039 5, goes 1 = 3, pair 9900 60, goes 1 = 4, pair 4040 1, goes 1 = 4, goes 0 = 1, goes 2 = 1",
        "goes 3 = 0");
    run("TRUE: YEARS", "pair 4041 1, goes 2 = 1, pair 4040 0, goes 2 = 2, pair 3999 60, goes 2 = 3, pair 3998 60",
        "pair 3899 60, goes 2 = 3, goes 1 = 1, goes 3 = 1");
    run("LONG: more", "pair 4042 1, goes 3 = 1, pair 4041 0, goes 3 = 2, pair 99 60, goes 3 = 3, pair 4041 1",
        "pair 4040 0, goes 3 = 3");
  }

  private static void mean() {
    run("VOID: YEARS are 0 together", "mean = VOID, pair 4045 0, mean = VOID, pair 4040 0, mean = VOID, pair 4040 1",
        "mean = 5000");
    run("thousandths (sums, cut)", "pair 4042 9, mean = 222, pair 4042 9, pair 4043 9, mean = 259, pair 4030 0",
        "mean = -111");
    run("cut, below 0", "pair 4038 9, mean = -222, pair 4041 9, mean = -55, pair 4042 9, mean = 37, pair 4039 9",
        "mean = 0");
    run("the greatest, the least", "pair 99 1, mean = 99000, pair 9900 1, mean = 0, pair 9900 0, mean = -49500",
        "pair 9900 60, mean = -3193");
  }

  private static void line() {
    run("LINE 0 .. 99, 0 at first", "line -1 = BAD, line 100 = BAD, line MIN = BAD, line MAX = BAD, line 99 = 0",
        "line 100 = BAD, line -1 = BAD, line 0 = 99, line 50 = 0, line 50 = 50, count 5 = 0");
  }

  private static void turned() {
    run("less than LINE first", "line 40, pair 3939 1, turned = 1, pair 4039 1, turned = 1, pair 4139 1, turned = 1");
    run("less than LINE then", "line 40, pair 3939 1, turned = 1, pair 3940 1, turned = 1, pair 3941 1, turned = 1",
        "pair 3900 1, turned = 2");
    run("first and YEARS is LINE or more", "line 40, pair 3838 1, turned = 0, pair 3838 2, turned = 1, pair 3838 3",
        "turned = 2, pair 3900 0, turned = 2, pair 3900 1, turned = 3");
    run("at a LINE of 0 none", "pair 0 60, pair 101 60, turned = 0, line 1, turned = 1, line 2, turned = 2, line 60",
        "turned = 2, line 61, turned = 1, line 62, turned = 0");
    run("at a LINE of 99", "pair 9898 1, pair 3939 60, pair 3898 60, line 99, turned = 2, line 98, turned = 1");
  }

  private static void side() {
    String people = "list 0 0, list 0 0, say 0 0 1, say 0 20 2, say 0 30 3, say 0 39 4, say 0 40 5, say 0 49 6, "
        + "say 0 50 7, say 0 99 8";
    run("w 1 .. 10", people, "line 40, side 0 0 = BAD, side 0 -1 = BAD, side 0 11 = BAD, side 0 MIN = BAD",
        "side 0 MAX = BAD, side 0 1 = 444, side 0 10 = 388, side 0 9 = 444");
    run("LINE less w .. LINE less 1, LINE .. LINE and w less 1", people, "line 39, side 0 1 = 0, side 0 2 = 0",
        "side 0 9 = 250, side 0 10 = 250, line 41, side 0 1 = 1000, side 0 2 = 1000, side 0 8 = 1000",
        "side 0 9 = 600, side 0 10 = 409, line 50, side 0 10 = 611, side 0 1 = 461, line 30, side 0 10 = 222",
        "side 0 9 = 0");
    run("within 0 .. 99", people, "side 0 1 = 0, side 0 10 = 0, line 1, side 0 1 = 1000, side 0 10 = 1000, line 10",
        "side 0 10 = 1000, side 0 9 = NOT, line 99, side 0 1 = 0, side 0 10 = 0, say 0 89 8, side 0 10 = 500",
        "side 0 9 = 0, say 0 98 8, side 0 1 = 500");
    run("NOT: none", people, "line 60, side 0 10 = 1000, side 0 9 = NOT, side 0 1 = NOT, side 1 10 = NOT",
        "side 0 11 = BAD, side 0 0 = BAD, line 59, side 0 9 = 1000, side 0 8 = NOT, line 90, side 0 10 = 0",
        "side 0 9 = NOT");
    run("of many", "list 0 0", Script.each("say 0 # 9999", 0, 99), "line 50, side 0 10 = 500, line 5",
        "side 0 10 = 333, line 95, side 0 10 = 666");
  }

  private static void apart() {
    String people = "list 0 0, list 0 0, say 0 39 5, say 0 40 3, say 0 45 4, say 0 46 5, say 1 39 5, say 1 40 2, "
        + "say 1 41 1, say 1 46 5";
    // SHARES 428, 0, 571 and 666, 333, 0.
    run("half the sum of sizes of differences, cut", people, "apart 1 4045 = 571, apart 10 4045 = 571",
        "apart 1 4044 = 333, apart 1 4040 = 0, apart 1 3946 = 257");
    run("NOT: none between in either", people, "apart 1 4141 = NOT, apart 10 4141 = NOT, apart 1 4545 = NOT",
        "apart 10 4545 = NOT, apart 1 4244 = NOT, apart 1 4199 = 444, apart 1 4046 = 333, say 0 41 1",
        "apart 1 4141 = 0, apart 11 4141 = BAD, apart 1 4241 = BAD");
    run("wholly apart, alike", "list 0 0, list 0 0, say 0 0 1, say 1 99 9999, apart 1 99 = 1000, say 1 10 1",
        "say 1 99 0, apart 1 99 = 0");
  }

  private static void drawn() {
    String people = "list 0 0, list 0 0, say 0 40 3, say 1 40 2, say 0 39 9, say 1 41 9, ";
    run("n times (1 .. 50)", people, "drawn 1 4040 5 0 = BAD, drawn 1 4040 5 -1 = BAD, drawn 1 4040 5 1 = 1",
        "drawn 1 4040 5 50 = 50, drawn 1 4040 5 51 = BAD, drawn 1 4040 5 MIN = BAD, drawn 1 4040 5 MAX = BAD");
    run("at most 2000 together", people, "say 0 40 1, say 1 40 1999, drawn 1 4040 5 2 = 2, say 1 40 2000",
        "drawn 1 4040 5 2 = BIG, say 0 40 0, drawn 1 4040 5 2 = NOT, say 1 40 2001, drawn 1 4040 5 2 = BIG",
        "drawn 10 4040 5 2 = BIG, say 0 40 1999, say 1 40 1, drawn 1 4040 5 2 = 2, say 0 40 2000",
        "drawn 1 4040 5 2 = BIG, say 1 40 0, drawn 10 4040 5 2 = NOT, say 0 40 2001, drawn 10 4040 5 2 = BIG",
        "drawn 1 4040 5 51 = BAD, drawn 1 4039 5 2 = BAD");
    run("who is not between counts for nothing", people, "say 0 39 9999, say 1 41 9999, drawn 1 4040 5 2 = 2",
        "drawn 1 3940 5 2 = BIG, drawn 1 4041 5 2 = BIG");
    run("NOT: none between in either", people, "drawn 1 3939 5 2 = NOT, drawn 1 4141 5 2 = NOT",
        "drawn 1 4242 5 2 = NOT, drawn 10 4141 5 2 = NOT, drawn 1 4141 5 0 = BAD, drawn 0 4141 5 2 = BAD");
  }

  /** Two that say an AGE against two that say another, by SEEDS from end to end; those who say others stand by. */
  private static void drawnBySeed() {
    int[] seeds = {Integer.MIN_VALUE, Integer.MIN_VALUE + 1, -1, 0, 1, 99, Integer.MAX_VALUE};
    String people = "list 0 0, list 0 0, say 0 # 2, say 1 + 2, say 0 0 7, say 1 99 7, say 0 98 8, say 1 1 8, say 0 81 9";
    for (int seed : seeds) {
      for (int[] ages : new int[][] {{40, 41}, {53, 62}, {3, 9}, {90, 97}}) {
        String lists = people.replace("#", "" + ages[0]).replace("+", "" + ages[1]);
        String call = "drawn 1 " + (100 * ages[0] + ages[1]) + " " + seed;
        run("wholly APART BY CHANCE, SEED " + seed, lists, whollyApart(call, seed));
      }
      // Whoever is alone, three against one are as much APART.
      run("as much APART, or more, SEED " + seed, "list 0 0, list 0 0, say 0 40 2, say 0 41 1, say 1 41 1",
          Script.with("drawn 1 4041 " + seed + " # = #", "1", "2", "49", "50"));
    }
  }

  /** How often two of the first AGE come together, two of the other too, for each n. */
  private static String whollyApart(String call, int seed) {
    int z = seed;
    int often = 0;
    StringBuilder drawn = new StringBuilder();
    for (int n = 1; n <= 50; n++) {
      int places = 2;
      int firstAges = 0;
      for (int i = 0; i < 4; i++) {
        z = z * 1103515245 + 12345;
        boolean first = (z >>> 8) % (4 - i) < places;
        places -= first ? 1 : 0;
        firstAges += first && i < 2 ? 1 : 0;
      }
      often += firstAges != 1 ? 1 : 0;
      drawn.append(call + " " + n + " = " + often + ", ");
    }
    return drawn.toString();
  }

  private static void years() {
    String measure = "tape a=0, measure 99, ";
    run("NOT: fewer than two", measure, "years 0 = NOT, list 0 0, years 0 = NOT, say 0 0 1, years 0 = NOT, list 1 0",
        "years 0 = NOT, say 1 1 1",
        // 1000000 in the YEAR 0, nothing in the YEAR 1.
        "years 0 = -1000000000, mark 0 0 2, years 0 = 1000000000, mark 0 0 9999, mark 1 0 0, years 0 = 100010",
        "years 1 = VOID");
    run("NOT: all of one YEAR", measure, "list 1850 0, list 1850 9, list 1850 3, say 0 0 1, say 1 1 1",
        "years 0 = NOT, say 2 2 1, years 0 = NOT, mark 2 0 1851, years 0 = -500000000, mark 2 0 1850, years 0 = NOT");
    run("LISTS where it is VOID left out", measure, "list 0 0, list 1 0, list 2 0, say 0 0 1, say 2 1 1",
        "years 0 = -500000000, say 1 0 1, say 1 1 1, years 0 = -500000000, say 1 1 0, years 0 = -500000000",
        "say 0 0 0, years 0 = -1000000000, say 2 1 0, years 0 = NOT");
    run("VOID MEASURES are of no YEAR", measure, "list 5 0, list 5 0, list 9999 0, say 0 0 1, say 1 1 1",
        "years 0 = NOT, tape 0, measure 99, years 1 = NOT");
    run("times 1000, cut", "tape a=0, measure 1, list 0 0, list 3 0, say 0 0 1, say 1 1 1, years 0 = -6666666",
        "mark 0 0 6, years 0 = 6666666, mark 0 0 9999, mark 1 0 0, years 0 = 2000");
    run("eight LISTS", measure, Script.each("list 9991 0, say # # 9999", 0, 7), "years 0 = NOT, mark 0 0 9999",
        "years 0 = 125000000, mark 7 0 0, years 0 = 14375");
  }

  private static void beside() {
    run("the other way, less the same way (alike: neither)", "tape a=0, measure 1, beside 0 = 0, list 0 100",
        "say 0 0 1, beside 0 = 0, list 0 101, beside 0 = 0, say 1 1 1, beside 0 = 1, mark 1 1 100, beside 0 = 0",
        "mark 1 1 99, beside 0 = -1, say 1 1 0, say 1 0 1, beside 0 = 0");
    run("the other way by 1 and 1", "tape a=0, measure 1, list 0 0, list 0 1, say 0 0 5000, say 0 1 5000, say 1 0 5000",
        "say 1 1 4999, measured 0 0 = 10000, measured 1 0 = 10001, beside 0 = -1, mark 0 1 2, beside 0 = 1");
    run("LISTS where it is VOID left out", "tape a=0, measure 1, list 0 0, list 0 500, list 0 1000, say 0 0 1",
        "say 2 1 1, beside 0 = 1, say 1 0 1, say 1 1 1, beside 0 = 3, say 2 1 0, beside 0 = 1, say 0 0 0",
        "beside 0 = 0");
    run("none IN: all VOID", "tape 0, measure 1, list 0 0, list 0 1000, say 0 0 1, say 1 1 1, beside 0 = 0",
        "beside 1 = VOID");
    run("eight LISTS, all pairs", "tape a=0, measure 1, ", Script.each("list 0 #, say # 0 100, say # 1 #", 0, 7),
        "beside 0 = 28", Script.each("mark # 1 9#", 0, 7), "beside 0 = 28, mark 0 1 1000, beside 0 = 14");
  }

  private static void changes() {
    run("STATE: none", "undo = STATE, redo = STATE, list 5 6, pair 0 1, body 0, line 7, tape a, law, tape 1",
        "measure 99, undo = STATE, redo = STATE, count 5 = 0");
    run("counts by telling, YEARS, SIGNED", "list 5 6, say 0 0 1 = 0, count 5 = 1, mark 0 0 7 = 5, count 5 = 2",
        "mark 0 1 8 = 6, count 5 = 3, say 0 99 4 = 0, count 5 = 4, undo = 3, of 0 99 = 0, undo = 2, of 0 102 = 6",
        "undo = 1, of 0 101 = 5, undo = 0, of 0 0 = 0, undo = STATE, count 5 = 0, redo = 3, of 0 0 = 1, redo = 2",
        "of 0 101 = 7, redo = 1, of 0 102 = 8, redo = 0, of 0 99 = 4, redo = STATE, count 5 = 4");
    run("telling the same number is none", "list 5 6, say 0 3 0 = 0, mark 0 0 5 = 5, mark 0 1 6 = 6, count 5 = 0",
        "undo = STATE, say 0 3 1, say 0 3 1 = 1, count 5 = 1, undo = 0, of 0 3 = 0");
    run("a refused telling is none", "list 5 6, say 0 3 10000 = BAD, mark 0 0 10000 = BAD, mark 0 1 1001 = BAD",
        "say 0 100 1 = BAD, count 5 = 0, undo = STATE");
    run("SAYINGS FROM A ROW, LANDS are none", "list 5 6, row 0 2 3, sayings 0 0 0 3 = 3, count 5 = 0, undo = STATE",
        "tape 5, law, land 0 0 3 0 1 = 3, undo = STATE, say 0 0 7 = 3, undo = 0, sayings 0 0 0 3 = 3",
        "land 0 0 3 0 1 = 3, of 0 0 = 6, redo = 0, of 0 0 = 7, undo = 0, of 0 0 = 3");
    run("of each LIST its own", Script.each("list 5 6", 0, 7), "say 0 3 1, say 7 3 2, mark 3 0 7, mark 7 1 8, mark 0 1 9",
        "undo = 4, of 0 102 = 6, of 7 102 = 8, undo = 3, of 7 102 = 6, undo = 2, of 3 101 = 5, of 0 101 = 5, undo = 1",
        "of 7 3 = 0, of 0 3 = 1, undo = 0, of 0 3 = 0, redo = 4, redo = 3, of 0 3 = 1, of 7 3 = 2, redo = 2, redo = 1",
        "of 3 101 = 7, of 7 102 = 8, of 0 102 = 6, of 7 101 = 5");
  }

  private static void doneAgain() {
    String three = "list 5 6, say 0 1 11, say 0 2 12, say 0 3 13, ";
    run("the latest first", three, "undo = 2, of 0 3 = 0, of 0 2 = 12, undo = 1, of 0 2 = 0, of 0 1 = 11, redo = 1",
        "of 0 2 = 12, of 0 3 = 0, redo = 0, of 0 3 = 13, redo = STATE, undo = 2, redo = 0, redo = STATE",
        "count 5 = 3");
    run("as long as no other came behind: say()", three, "undo = 2, undo = 1, say 0 4 1, redo = STATE, count 5 = 2",
        "undo = 1, of 0 4 = 0, redo = 0, of 0 4 = 1");
    run("as long as no other came behind: YEAR", three, "undo = 2, mark 0 0 6, redo = STATE, count 5 = 3",
        "of 0 3 = 0");
    run("as long as no other came behind: SIGNED", three, "undo = 2, mark 0 1 7, redo = STATE, count 5 = 3",
        "of 0 3 = 0");
    run("the very change told anew is another", three, "undo = 2, say 0 3 13 = 0, redo = STATE, count 5 = 3",
        "undo = 2, redo = 0, of 0 3 = 13");
    run("what is no change cuts nothing off", three, "undo = 2, undo = 1, say 0 1 11 = 11, mark 0 0 5 = 5",
        "mark 0 1 6 = 6, say 0 3 -1 = BAD, list 7 8 = 1, line 9, pair 0 0, redo = 1, of 0 2 = 12, say 0 2 12 = 12",
        "redo = 0, of 0 3 = 13");
    run("all undone, then another", three, "undo = 2, undo = 1, undo = 0, undo = STATE, say 0 5 5, count 5 = 1",
        "redo = STATE, undo = 0, undo = STATE, of 0 5 = 0");
  }

  private static void changesThatAreKept() {
    String many = "list 0 0, " + Script.each("say 0 7 #", 1, 39);
    run("39 are kept", many, "count 5 = 39, undo = 38, of 0 7 = 38, redo = 0, of 0 7 = 39");
    run("40 at most are kept: 40", many, "say 0 7 40, count 5 = 40, ", Script.each("undo", 1, 39), "undo = 0",
        "of 0 7 = 0, undo = STATE", Script.each("redo", 1, 39), "redo = 0, of 0 7 = 40, redo = STATE, count 5 = 40");
    run("40 at most are kept: 41", many, "say 0 7 40, say 0 7 41, count 5 = 40, ", Script.each("undo", 1, 39),
        "undo = 0, of 0 7 = 1, undo = STATE", Script.each("redo", 1, 39), "redo = 0, of 0 7 = 41, redo = STATE",
        "count 5 = 40");
    run("the oldest goes, whatever it was", "list 5 6, mark 0 0 9, mark 0 1 9, say 0 0 9",
        Script.each("say 0 7 #", 1, 38), "count 5 = 40, say 0 7 38 = 38, say 0 7 10000 = BAD, count 5 = 40",
        "of 0 101 = 9, ", Script.each("undo", 1, 40), "of 0 101 = 9, of 0 102 = 6, undo = STATE");
    run("one undone at 40, another told: 40", many, "say 0 7 40, undo = 39, say 0 8 1, count 5 = 40, redo = STATE",
        "undo = 39, of 0 8 = 0, undo = 38, of 0 7 = 38, redo = 1, redo = 0, of 0 7 = 39, of 0 8 = 1, redo = STATE");
    run("a refused one takes no place", many, "say 0 7 40, say 0 7 -1 = BAD, mark 0 0 10000 = BAD, say 0 7 40 = 40",
        "count 5 = 40, ", Script.each("undo", 1, 40), "of 0 7 = 0");
  }
}
