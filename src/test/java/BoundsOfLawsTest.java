/** Section 3, sentence by sentence: the last value that is good, the first that is not; refusals change nothing. */
public final class BoundsOfLawsTest {
  private static final Due due = new Due("BoundsOfLawsTest");
  private static final String[] NO_KNOW_SORT = {
    "-1", "-10", "4", "5", "9", "14", "504", "1004", "1009", "1010", "1013", "MIN", "MAX",
  };
  private static final String[] KNOW_SORT = {"0", "1", "2", "3", "10", "13", "990", "993", "1000", "1003"};

  public static void main(String[] args) {
    land();
    landBySeed();
    says();
    truly();
    fits();
    best();
    knowAndSort();
    due.end();
  }

  private static void run(String title, String... told) {
    Script.run(due, title, told);
  }

  private static void land() {
    run("n people (1 .. 400)", "list 0 0, tape 5, law, land 0 0 0 0 1 = BAD, land 0 0 -1 0 1 = BAD",
        "land 0 0 1 0 1 = 1, of 0 5 = 1, land 0 0 400 0 1 = 400, of 0 5 = 401, land 0 0 401 0 1 = BAD",
        "land 0 0 MIN 0 1 = BAD, land 0 0 MAX 0 1 = BAD, of 0 100 = 401, count 5 = 0");
    run("a count stays at 9999", "list 0 0, tape 5, law, say 0 5 9998, land 0 0 1 0 1 = 1, of 0 5 = 9999",
        "land 0 0 1 0 1 = 1, of 0 5 = 9999, land 0 0 400 0 1 = 400, of 0 5 = 9999, of 0 100 = 9999, say 0 5 9600",
        "land 0 0 400 0 1 = 400, of 0 5 = 9999, say 0 5 9599, land 0 0 400 0 1 = 400, of 0 5 = 9999, say 0 5 9598",
        "land 0 0 400 0 1 = 400, of 0 5 = 9998");
    run("what is said is held within 0 .. 99", "list 0 0, tape 0-1, law, tape 100, law, land 0 0 3 0 1 = 3",
        "land 0 1 4 0 1 = 4, of 0 0 = 3, of 0 99 = 4, of 0 100 = 7");
    run("none knows by KNOW 0, all by 100", "list 0 0, tape k+5, law, land 0 0 400 0 9 = 400, of 0 5 = 400",
        "of 0 100 = 400, land 0 0 400 1000 9 = 400, of 0 6 = 400, of 0 5 = 400, of 0 100 = 800");
    run("of a sort s", "list 0 0, tape s+50, law, land 0 0 1 0 9 = 1, land 0 0 1 1 9 = 1, land 0 0 1 2 9 = 1",
        "land 0 0 1 3 9 = 1, land 0 0 2 1003 9 = 2, of 0 50 = 1, of 0 51 = 1, of 0 52 = 1, of 0 53 = 3",
        "of 0 100 = 6");
    run("a LAND is no change", "list 0 0, tape 5, law, say 0 5 7, say 0 5 8, undo = 1, land 0 0 3 0 1 = 3",
        "of 0 5 = 10, redo = 0, of 0 5 = 8, undo = 1, undo = 0, of 0 5 = 0");
  }

  /** The first person by SEEDS from end to end: true AGE, whether he KNOWS, his draw. */
  private static void landBySeed() {
    int[] seeds = {Integer.MIN_VALUE, Integer.MIN_VALUE + 7, -1, 0, 1, 2, 3, Integer.MAX_VALUE - 7, Integer.MAX_VALUE};
    for (int seed : seeds) {
      int[] three = new int[3];
      int z = seed;
      for (int i = 0; i < 3; i++) {
        z = z * 1103515245 + 12345;
        three[i] = (z >>> 8) % 100;
      }
      int know = three[1];
      String more = know == 100 ? "" : "land 0 1 1 " + 10 * (know + 1) + " " + seed + " = 1, of 0 1 = 1, ";
      run("one of a LAND, SEED " + seed,
          "list 0 0, list 0 0, tape a, law, tape k, law, tape z, law, land 1 0 1 0 " + seed + " = 1",
          "of 1 " + three[0] + " = 1, say 1 " + three[0] + " 0, land 1 2 1 0 " + seed + " = 1, of 1 " + three[2] + " = 1",
          "of 1 100 = 1, land 0 1 1 " + 10 * know + " " + seed + " = 1, of 0 0 = 1, ", more);
    }
  }

  private static void says() {
    run("AGE 0 .. 99", "tape a, law, says 0 -1 0 = BAD, says 0 0 0 = 0, says 0 99 0 = 99, says 0 100 0 = BAD",
        "says 0 MIN 0 = BAD, says 0 MAX 0 = BAD");
    run("1000 times whether one knows, 10 times the draw, and s", "tape k*50+z%40+s, law, says 0 5 0 = 0",
        "says 0 5 3 = 3",
        Script.with("says 0 5 # = BAD", "-1", "-1000", "4", "9", "14", "994", "999", "1004"),
        Script.with("says 0 5 # = BAD", "1994", "1999", "2000", "2003", "MIN", "MAX"),
        "says 0 5 10 = 1, says 0 5 13 = 4, says 0 5 390 = 39, says 0 5 400 = 0, says 0 5 990 = 19",
        "says 0 5 993 = 22, says 0 5 1000 = 50, says 0 5 1003 = 53, says 0 5 1990 = 69, says 0 5 1993 = 72");
  }

  private static void truly() {
    run("AGE 0 .. 99", "tape a, law, truly 0 -1 0 0 = BAD, truly 0 0 0 0 = 1000, truly 0 99 0 0 = 1000",
        "truly 0 100 0 0 = BAD, truly 0 0 0 1 = 0, truly 0 99 0 1 = 99, truly 0 -1 0 1 = BAD, truly 0 100 0 1 = BAD",
        "truly 0 MIN 0 0 = BAD, truly 0 MAX 0 0 = BAD");
    run("that it is so (what 0), the LIKELIEST (1)", "tape a/2*2, law, truly 0 40 0 -1 = BAD, truly 0 40 0 0 = 500",
        "truly 0 40 0 1 = 40, truly 0 40 0 2 = BAD, truly 0 40 0 MIN = BAD, truly 0 40 0 MAX = BAD");
    run("NOT: nobody says that", "tape 5, law, truly 0 4 0 0 = NOT, truly 0 5 0 0 = 10, truly 0 6 0 0 = NOT",
        "truly 0 4 0 1 = NOT, truly 0 6 0 1 = NOT, truly 0 5 0 1 = 0, truly 0 4 0 2 = BAD, truly 0 4 4 0 = BAD");
    run("KNOW hundredths knowing: none, one", "tape k?a;0, law, truly 0 50 0 0 = NOT, truly 0 50 0 1 = NOT",
        "truly 0 50 10 0 = 1000, truly 0 50 10 1 = 50, truly 0 0 0 0 = 10, truly 0 0 10 0 = 10",
        "truly 0 0 1000 0 = 1000");
    run("KNOW hundredths knowing: all but one, all", "tape k?0;a, law, truly 0 50 1000 0 = NOT",
        "truly 0 50 990 0 = 1000, truly 0 50 990 1 = 50, truly 0 0 1000 0 = 10, truly 0 0 990 0 = 10",
        "truly 0 0 0 0 = 1000");
    // 7 is said by one draw of 100 of each but 7 itself, and by 99 of 7's.
    run("each draw alike likely (0 .. 99)", "tape z=99?7;a=7?7;8, law, truly 0 7 0 0 = 502, truly 0 7 0 1 = 7",
        "truly 0 8 0 0 = 10, truly 0 9 0 0 = NOT, tape z=0?7;8, law, truly 1 7 0 0 = 10, truly 1 8 0 1 = 0",
        "tape z=100?7;8, law, truly 2 7 0 0 = NOT");
    // One who knows, of KNOW 1, by one draw of 100: a millionth.
    run("the LIKELIEST of the least part", "tape k&z=0&a=50?7;8, law, truly 0 7 10 1 = 50, truly 0 7 10 0 = 0",
        "truly 0 7 0 1 = NOT, tape k&z=99&a=50?50;8, law, truly 1 50 10 1 = 50, truly 1 50 10 0 = 1000");
    run("of like ones the least", "tape a/50*50, law, truly 0 50 0 1 = 50, truly 0 0 0 1 = 0, tape 99-a, law",
        "truly 1 0 0 1 = 99, truly 1 99 0 1 = 0, tape (a=90)*(z>0)+(a=91)*9+(a<90)*7, law, truly 2 9 0 1 = 91");
    run("thousandths (cut)", "tape a<3?1;2, law, truly 0 1 0 0 = 333, truly 0 2 0 0 = 0, tape a<7?1;2, law",
        "truly 1 1 0 0 = 142, tape a<3?3;4, law, truly 2 4 0 0 = 10, truly 2 3 0 0 = 0, truly 2 3 0 1 = 0");
  }

  private static void fits() {
    // By the LAW a 10000 millionths are due of each AGE.
    run("by 1000000, cut", "list 0 0, tape a, law, fits 0 0 0 = 0, say 0 50 1, fits 0 0 0 = 1, say 0 50 5",
        "fits 0 0 0 = 9, say 0 50 50, fits 0 0 0 = 99, say 0 50 101, fits 0 0 0 = 199");
    run("sizes, both over and under", "list 0 0, tape 5, law, say 0 5 7, fits 0 0 0 = 0, say 0 6 3, fits 0 0 0 = 6",
        "say 0 5 0, fits 0 0 0 = 6");
    run("EXPECTED by KNOW", "list 0 0, tape k?5;6, law, say 0 5 100, fits 0 0 1000 = 0, fits 0 0 990 = 2",
        "fits 0 0 500 = 100, fits 0 0 10 = 198, fits 0 0 0 = 200");
    run("EXPECTED by draws and AGES", "list 0 0, tape z<1?5;6, law, say 0 6 99, say 0 5 1, fits 0 0 0 = 0",
        "tape a<1?5;6, law, fits 0 1 0 = 0, tape z<99?6;5, law, fits 0 2 0 = 0, tape a<99?6;5, law, fits 0 3 0 = 0",
        "tape a<98?6;5, law, fits 0 4 0 = 2");
    run("of all that can be said", "list 0 0", Script.each("say 0 # 9999", 0, 99), "tape 5, law",
        "fits 0 0 0 = 1979802, tape a, law, fits 0 1 0 = 0, best 0 0 0 = 1, best 0 0 1 = 0");
  }

  private static void best() {
    run("STATE: no LAWS", "list 0 0, best 0 0 0 = STATE, best 0 0 1 = STATE, best 0 1003 0 = STATE",
        "best 0 4 0 = BAD, best 0 0 2 = BAD, tape a, best 0 0 0 = STATE, law = 0, best 0 0 0 = 0");
    run("the LAW (what 0), FITS (1)", "list 0 0, say 0 7 3, tape 6, law, tape 7, law, best 0 0 -1 = BAD",
        "best 0 0 0 = 1, best 0 0 1 = 0, best 0 0 2 = BAD, best 0 0 MIN = BAD, best 0 0 MAX = BAD");
    run("of like ones the first", "list 0 0, say 0 7 3, tape 6, law, best 0 0 0 = 0, best 0 0 1 = 6, tape 8, law",
        "best 0 0 0 = 0, tape 7, law, best 0 0 0 = 2, tape 7, law, best 0 0 0 = 2, tape k?9;7, law, best 0 0 0 = 2",
        "say 0 7 2, say 0 9 1, best 0 330 0 = 4, best 0 0 0 = 2, best 0 1000 0 = 2");
    run("of all LAWS, the last one too", "list 0 0, say 0 7 3", Script.each("tape #, law = #", 0, 4),
        "best 0 0 0 = 0, tape 7, law = 5, best 0 0 0 = 5");
    run("of a LIST without people all LAWS fit", "list 0 0, tape 6, law, tape 7, law, best 0 0 0 = 0",
        "best 0 0 1 = 0");
  }

  /** ks: 10 times KNOW (0 .. 100) and s (0 .. 3), for each call that takes it. */
  private static void knowAndSort() {
    String made = "list 0 0, tape 5, law, ";
    run("ks: land()", made, Script.with("land 0 0 2 # 7 = BAD", NO_KNOW_SORT),
        Script.with("land 0 0 2 # 7 = 2", KNOW_SORT));
    run("ks: truly()", made, Script.with("truly 0 5 # 0 = BAD", NO_KNOW_SORT),
        Script.with("truly 0 5 # 0 = 10", KNOW_SORT));
    run("ks: fits()", made, Script.with("fits 0 0 # = BAD", NO_KNOW_SORT), Script.with("fits 0 0 # = 0", KNOW_SORT));
    run("ks: best()", made, Script.with("best 0 # 0 = BAD", NO_KNOW_SORT), Script.with("best 0 # 0 = 0", KNOW_SORT));
    run("s of ks", "list 0 0, say 0 50 1, say 0 53 3, tape s+50, law, truly 0 50 0 0 = 10, truly 0 50 1 0 = NOT",
        "truly 0 53 1003 0 = 10, truly 0 53 1002 0 = NOT, fits 0 0 0 = 6, fits 0 0 3 = 2, best 0 0 1 = 6",
        "best 0 1003 1 = 2");
  }
}
