/** Section 5, sentence by sentence: the last value that is good, the first that is not; refusals change nothing. */
public final class BoundsOfShelvesTest {
  private static final Due due = new Due("BoundsOfShelvesTest");

  public static void main(String[] args) {
    acts();
    intsThatWrap();
    traces();
    keep();
    row();
    lowestBits();
    places();
    shift();
    shiftRefused();
    taken();
    sayings();
    sayingsFromOtherThanInts();
    count();
    due.end();
  }

  private static void run(String title, String... told) {
    Script.run(due, title, told);
  }

  private static void acts() {
    run("ACTS 0 .. 3", "body 0, act 0 -1 5 = 0, act 0 0 5 = 5, act 0 3 5 = 9, act 0 4 5 = 0, act 0 MIN 5 = 0",
        "act 0 MAX 5 = 0");
    run("no such ACT: no TRACE then", "body 7, act 0 3 5, count 7 = 8, trace 7 = 11, act 0 4 5 = 0, count 7 = 0",
        "trace 0 = BAD, act 0 3 5, act 0 -1 5 = 0, count 7 = 0, trace 0 = BAD");
    run("no such SAYING: no TRACE then", "body 7, act 0 3 5, act 1 3 5 = 0, count 7 = 0, trace 0 = BAD, act 0 3 5",
        "count 7 = 8, act -1 3 5 = 0, count 7 = 0, trace 0 = BAD");
    run("n its number: that of a later one", "body 4, body 0, body 0, act 2 0 10 = 12, act 2 1 10 = 24",
        "act 2 2 10 = 8, act 2 3 10 = 21, act 1 0 10 = 11");
  }

  private static void intsThatWrap() {
    run("x + n wraps", "body 0, body 0, act 1 0 MAX = MIN, act 1 0 MIN = -2147483647, act 0 0 MAX = MAX");
    run("knows(x) * 2 wraps", "body 0, act 0 1 1073741823 = 2147483646, act 0 1 1073741824 = MIN, act 0 1 MIN = 0",
        "act 0 1 MAX = -2");
    run("super.knows(x) + 3 wraps", "body 1, act 0 0 MAX = -2147483646, act 0 0 2147483644 = MAX",
        "act 0 0 2147483645 = MIN");
    run("-super.says(x) wraps", "body 2, act 0 1 1073741824 = MIN, act 0 1 1073741823 = -2147483646",
        "act 0 1 MAX = 2");
    run("super.writes(x) * 3 wraps", "body 3, act 0 2 MAX = 2147483645, act 0 2 MIN = MIN",
        "act 0 2 715827882 = 2147483646, act 0 2 715827883 = -2147483647");
    run("super.tells(x) ^ 5", "body 4, act 0 3 MAX = 6, act 0 3 MIN = 0, act 0 3 0 = 0, act 0 3 1 = 2");
    run("super.knows(x + 1) wraps", "body 5, act 0 0 MAX = MIN, act 0 0 2147483646 = MAX, act 0 1 MAX = 0");
    run("super.writes(x) + knows(2) wraps", "body 6, act 0 2 MAX = -2147483646, act 0 2 2147483644 = MAX",
        "act 0 2 2147483645 = MIN");
    run("super.says(x) - writes(2) wraps", "body 7, act 0 1 1073741824 = 2147483646, act 0 1 1073741823 = MIN",
        "act 0 3 1073741823 = -2");
    run("says(x) - writes(1) wraps", "body 0, act 0 3 1073741824 = MAX, act 0 3 MIN = -1");
  }

  private static void traces() {
    String eight = "body 0, body 1, body 2, body 3, body 4, body 5, body 6, body 7, ";
    run("none yet", "trace 0 = BAD, trace -1 = BAD, trace 23 = BAD, trace 24 = BAD, trace MIN = BAD",
        "trace MAX = BAD, count 7 = 0");
    run("THE TRACE's i-th body, to its end", eight, "act 7 3 1, count 7 = 8, trace -1 = BAD, trace 0 = 81",
        "trace 1 = 2, trace 2 = 80, trace 3 = 30, trace 4 = 10, trace 5 = 1, trace 6 = 11, trace 7 = 11",
        "trace 8 = BAD");
    run("of the latest act()", eight, "act 7 3 1, act 0 0 1, count 7 = 1, trace 0 = 1, trace 1 = BAD, trace 7 = BAD",
        "act 6 2 1, count 7 = 4, trace 0 = 70, trace 1 = 11, trace 2 = 60, trace 3 = 1, trace 4 = BAD");
    run("bodies as they began", eight, "act 4 3 1, count 7 = 6, trace 0 = 50, trace 1 = 2, trace 2 = 10, trace 3 = 20",
        "trace 4 = 1, trace 5 = 11, trace 6 = BAD, act 1 0 1, count 7 = 2, trace 0 = 20, trace 1 = 1, trace 2 = BAD",
        "act 3 3 1, count 7 = 6, trace 0 = 2, trace 1 = 30, trace 2 = 10, trace 3 = 1, trace 4 = 40, trace 5 = 11");
    run("no other call has a TRACE", eight, "act 3 2 1, body 3 = 8, keep 0 3, taken 0 3 = 3, count 7 = 2",
        "trace 0 = 40, trace 1 = 11, trace 2 = BAD, body 8 = BAD, keep 6 0 = BAD");
    run("the first 24 are kept: none has so many", eight, "act 7 3 1, trace 22 = BAD, trace 23 = BAD",
        "trace 24 = BAD, trace 25 = BAD, trace MIN = BAD, trace MAX = BAD");
  }

  private static void keep() {
    run("a SHELF holds nothing (body -1), or a SAYING", "body 2, keep 0 0 = 1, taken 0 2 = 2, keep 0 1 = BAD",
        "keep 0 -2 = BAD, keep 0 50 = BAD, taken 0 2 = 2, keep 0 -1 = 1, taken 0 2 = NOTHING, keep 0 -1 = 1",
        "keep 0 0 = 1, row 0 3 1 = 1, taken 0 2 = KIND, keep 0 0 = 1, put 0 0 5 = KIND, row 0 3 1 = 1",
        "element 0 0 = 0, put 0 0 5 = 1, keep 0 -1 = 1, element 0 0 = NONE");
    run("one SAYING on more SHELVES", "body 2, body 6, keep 0 1 = 1, keep 5 1 = 1, keep 3 0 = 1, taken 0 5 = 6",
        "taken 5 6 = 6, taken 3 0 = 2, keep 0 -1 = 1, taken 5 6 = 6");
  }

  private static void row() {
    run("0 .. 60 elements of each sort",
        Script.each("row 0 # 60 = 1, put 0 59 1 = 1, element 0 59 = 1, put 0 60 1 = PLACE, element 0 60 = NONE, "
            + "row 0 # 61 = BAD, row 0 # MAX = BAD, row 0 # -1 = SIZE, row 0 # MIN = SIZE, element 0 59 = 1, "
            + "row 0 # 1 = 1, element 0 0 = 0, put 0 0 1 = 1, put 0 1 1 = PLACE, row 0 # 0 = 1, put 0 0 1 = PLACE, "
            + "element 0 0 = NONE", 0, 4));
    for (int sort = 0; sort <= 4; sort++) {
      run("0 at first, in a ROW anew, of sort " + sort, "row 0 " + sort + " 60",
          Script.each("element 0 # = 0, put 0 # 1", 0, 59), "row 0 " + sort + " 60 = 1",
          Script.each("element 0 # = 0", 0, 59));
    }
    run("sorts 0 .. 4", "row 0 3 2, put 0 1 7, row 0 -1 5 = BAD, row 0 5 5 = BAD, row 0 MIN 5 = BAD",
        "row 0 MAX 5 = BAD, row 0 5 -1 = BAD, row 0 -1 -1 = BAD, row 0 5 61 = BAD, element 0 1 = 7");
    run("a size below 0 leaves what a SHELF holds", "body 4, keep 0 0, row 0 2 -1 = SIZE, taken 0 4 = 4",
        "row 1 2 -1 = SIZE, taken 1 4 = NOTHING, row 0 2 61 = BAD, row 1 2 61 = BAD");
  }

  private static String kept(long... putAndKept) {
    StringBuilder b = new StringBuilder();
    for (int i = 0; i < putAndKept.length; i += 2) {
      b.append("put 0 1 " + putAndKept[i] + " = 1, element 0 1 = " + putAndKept[i + 1] + ", ");
      b.append("element 0 0 = 0, element 0 2 = 0, ");
    }
    return b.toString();
  }

  private static void lowestBits() {
    long two31 = 1L << 31;
    long two32 = 1L << 32;
    run("bytes", "row 0 0 3",
        kept(0, 0, 127, 127, 128, -128, 255, -1, 256, 0, 257, 1, -1, -1, -128, -128, -129, 127, -256, 0),
        kept(two32 + 200, -56, Long.MAX_VALUE, -1));
    run("shorts", "row 0 1 3",
        kept(0, 0, 32767, 32767, 32768, -32768, 65535, -1, 65536, 0, 65537, 1, -1, -1, -32768, -32768, -32769, 32767),
        kept(128, 128, 255, 255, Long.MAX_VALUE, -1));
    run("ints", "row 0 2 3",
        kept(0, 0, two31 - 1, two31 - 1, two31, -two31, two32 - 1, -1, two32, 0, two32 + 1, 1, -1, -1, -two31, -two31),
        kept(-two31 - 1, two31 - 1, 65535, 65535, 32768, 32768, Long.MAX_VALUE, -1));
    run("longs", "row 0 3 3",
        kept(0, 0, two31, two31, two32, two32, -two31 - 1, -two31 - 1, Long.MAX_VALUE, Long.MAX_VALUE, -1, -1),
        kept(Long.MIN_VALUE + 1, Long.MIN_VALUE + 1),
        "put 0 1 LEAST = 1, element 0 1 = " + Long.MIN_VALUE + ", element 0 2 = 0");
    run("booleans", "row 0 4 3",
        kept(0, 0, 1, 1, 2, 1, -1, 1, 256, 1, 65536, 1, two31, 1, two32, 1, Long.MIN_VALUE, 1, Long.MAX_VALUE, 1),
        kept(1, 1, 0, 0));
  }

  private static void places() {
    run("a place that is not there, in a ROW of each sort",
        Script.each("row 0 # 3, put 0 0 1 = 1, put 0 2 1 = 1, put 0 3 1 = PLACE, put 0 -1 1 = PLACE, "
            + "put 0 MIN 1 = PLACE, put 0 MAX 1 = PLACE, put 0 59 1 = PLACE, put 0 60 1 = PLACE, element 0 0 = 1, "
            + "element 0 1 = 0, element 0 2 = 1, element 0 3 = NONE, element 0 -1 = NONE, element 0 MIN = NONE, "
            + "element 0 MAX = NONE, element 0 60 = NONE", 0, 4));
    run("nothing is there; it is of another kind", "body 0, put 0 0 1 = NOTHING, put 0 -1 1 = NOTHING",
        "put 0 60 1 = NOTHING, element 0 0 = NONE, keep 0 0, put 0 0 1 = KIND, put 0 -1 1 = KIND, put 0 60 1 = KIND",
        "element 0 0 = NONE, element 0 -1 = NONE, put -1 -1 1 = BAD, put 6 -1 1 = BAD, element 6 0 = NONE");
  }

  private static void shift() {
    String rows = "row 0 2 5, row 1 2 3, " + Script.each("put 0 # 1#", 0, 4) + Script.each("put 1 # 2#", 0, 2);
    run("as they all were before: up", rows, "shift 0 0 0 1 4 = 4, element 0 0 = 10, element 0 1 = 10",
        "element 0 2 = 11, element 0 3 = 12, element 0 4 = 13");
    run("as they all were before: down", rows, "shift 0 1 0 0 4 = 4, element 0 0 = 11, element 0 1 = 12",
        "element 0 2 = 13, element 0 3 = 14, element 0 4 = 14");
    run("onto itself", rows, "shift 0 0 0 0 5 = 5, element 0 0 = 10, element 0 4 = 14");
    run("to another one", rows, "shift 0 2 1 0 3 = 3, element 1 0 = 12, element 1 2 = 14, element 0 2 = 12",
        "shift 1 1 0 3 2 = 2, element 0 3 = 13, element 0 4 = 14, element 0 2 = 12");
    run("n elements, from the first place to the last", rows, "shift 0 0 1 0 3 = 3, shift 0 2 1 0 3 = 3",
        "shift 0 3 1 0 3 = PLACE, shift 0 0 1 1 3 = PLACE, shift 0 0 1 1 2 = 2, shift 0 0 1 2 1 = 1",
        "shift 0 0 1 3 1 = PLACE, shift 0 4 1 0 1 = 1, shift 0 5 1 0 1 = PLACE, shift 0 0 1 0 4 = PLACE",
        "shift 1 0 0 2 3 = 3, shift 1 0 0 3 3 = PLACE");
    run("0 elements, to the end", rows, "shift 0 0 1 0 0 = 0, shift 0 5 1 3 0 = 0, shift 0 6 1 3 0 = PLACE",
        "shift 0 5 1 4 0 = PLACE, shift 0 -1 1 0 0 = PLACE, shift 0 0 1 -1 0 = PLACE");
    run("ROWS of 0 and of 60", "row 0 0 60, row 1 0 60, row 2 0 0, put 0 59 9, shift 0 0 1 0 60 = 60",
        "element 1 59 = 9, shift 0 0 1 0 61 = PLACE, shift 0 1 1 0 60 = PLACE, shift 2 0 0 60 0 = 0",
        "shift 2 0 2 0 0 = 0, shift 2 0 0 0 1 = PLACE, shift 0 0 2 0 1 = PLACE, shift 0 60 2 0 0 = 0");
    run("of each sort",
        Script.each("row 0 # 2, row 5 # 2, put 0 1 1, shift 0 1 5 0 1 = 1, element 5 0 = 1, element 5 1 = 0, "
            + "element 0 1 = 1", 0, 4));
  }

  private static void shiftRefused() {
    String shelves = "body 0, keep 0 0, row 1 2 3, row 2 3 3, keep 4 0, ";
    String[] far = {"-1", "MIN", "MAX", "4"};
    run("a place that is not there", shelves,
        Script.with("shift 1 # 1 0 1 = PLACE, shift 1 0 1 # 1 = PLACE", far),
        Script.with("shift 1 0 1 0 # = PLACE, shift 1 # 1 # # = PLACE", far),
        "shift 1 1 1 0 3 = PLACE, shift 1 0 1 1 3 = PLACE, shift 1 1 1 0 MAX = PLACE",
        "shift 1 2 1 2 2147483646 = PLACE, shift 1 3 1 3 -1 = PLACE");
    run("nothing is there (either)", shelves, "shift 3 0 1 0 1 = NOTHING, shift 1 0 3 0 1 = NOTHING",
        "shift 3 0 3 0 0 = NOTHING, shift 3 0 5 0 1 = NOTHING, shift 0 0 3 0 1 = NOTHING, shift 3 0 0 0 1 = NOTHING",
        "shift 1 -1 3 0 1 = NOTHING, shift 3 0 1 0 -1 = NOTHING");
    run("no ROWS, or of unlike sorts", shelves, "shift 0 0 1 0 1 = KIND, shift 1 0 0 0 1 = KIND",
        "shift 0 0 4 0 0 = KIND, shift 0 0 0 0 0 = KIND, shift 1 0 2 0 1 = KIND, shift 2 0 1 0 1 = KIND",
        "shift 1 -1 2 0 1 = KIND, shift 1 0 2 0 -1 = KIND, shift 1 0 2 0 0 = KIND, shift 0 9 1 9 9 = KIND");
    StringBuilder unlike = new StringBuilder();
    for (int one = 0; one <= 4; one++) {
      for (int other = 0; other <= 4; other++) {
        unlike.append("shift " + one + " 0 " + other + " 0 1 = " + (one == other ? "1" : "KIND") + ", ");
      }
    }
    run("of each two sorts", Script.each("row # # 1", 0, 4), unlike.toString());
    run("BAD ahead of the host's REFUSALS", shelves, "shift 3 0 6 0 1 = BAD, shift -1 0 3 0 1 = BAD",
        "shift 6 0 0 0 1 = BAD, shift 1 -1 6 0 1 = BAD, shift -1 -1 -1 -1 -1 = BAD");
  }

  private static void taken() {
    String shelves = "body 3, keep 0 0, row 1 2 3, ";
    run("KIND k (0 .. 7)", shelves, "taken 0 -1 = BAD, taken 0 0 = 3, taken 0 7 = KIND, taken 0 8 = BAD",
        "taken 0 MIN = BAD, taken 0 MAX = BAD");
    run("nothing is there, it is of another kind", shelves, "taken 2 0 = NOTHING, taken 2 8 = BAD",
        "taken 2 7 = NOTHING, taken 1 0 = KIND, taken 1 7 = KIND, taken 1 8 = BAD");
    String[] above = {"0", "0 1", "0 2", "0 2 3", "0 1 4", "0 5", "0 5 6", "0 2 7"};
    for (int kind = 0; kind < 8; kind++) {
      StringBuilder b = new StringBuilder("body " + kind + ", keep 0 0, ");
      for (int k = 0; k < 8; k++) {
        boolean is = (" " + above[kind] + " ").contains(" " + k + " ");
        b.append("taken 0 " + k + " = " + (is ? "" + kind : "KIND") + ", ");
      }
      run("a SAYING of KIND " + kind + " taken for each", b.toString());
    }
  }

  private static void sayings() {
    String row = "list 0 0, row 0 2 4, put 0 0 0, put 0 1 99, put 0 2 5, put 0 3 5, ";
    run("n (1 .. 60) of them", row, "sayings 0 0 0 0 = BAD, sayings 0 0 0 -1 = BAD, sayings 0 0 0 MIN = BAD",
        "sayings 0 0 0 61 = BAD, sayings 0 0 0 MAX = BAD, of 0 100 = 0, sayings 0 0 0 1 = 1, of 0 0 = 1",
        "of 0 99 = 0, sayings 0 0 0 60 = 4, of 0 0 = 2, of 0 99 = 1, of 0 5 = 2, of 0 100 = 5");
    run("60 of 60", "list 0 0, row 0 2 60", Script.each("put 0 # #", 0, 59), "sayings 0 0 0 60 = 60, of 0 100 = 60",
        "of 0 59 = 1, sayings 0 0 0 59 = 59, of 0 59 = 1, of 0 58 = 2, sayings 0 0 1 60 = 59, sayings 0 0 59 60 = 1",
        "of 0 59 = 3, of 0 0 = 2");
    run("from place i on, to where it ends", row, "sayings 0 0 3 5 = 1, of 0 5 = 1, sayings 0 0 4 5 = 0",
        "sayings 0 0 5 1 = 0, sayings 0 0 60 1 = 0, sayings 0 0 MAX 60 = 0, sayings 0 0 -1 60 = 0",
        "sayings 0 0 MIN 60 = 0, sayings 0 0 -4 60 = 0, of 0 100 = 1, sayings 0 0 2 2 = 2, of 0 5 = 3");
    run("one is no AGE", row, "put 0 2 100, sayings 0 0 0 4 = 2, of 0 100 = 2, put 0 2 -1, sayings 0 0 0 4 = 2",
        "sayings 0 0 2 2 = 0, put 0 0 100, sayings 0 0 0 4 = 0, of 0 100 = 4, put 0 0 MIN, sayings 0 0 0 4 = 0",
        "put 0 0 MAX, sayings 0 0 0 4 = 0, sayings 0 0 1 1 = 1, of 0 99 = 3, put 0 0 4294967301",
        "sayings 0 0 0 1 = 1, of 0 5 = 1");
    run("at 9999 a count stays; it came all the same", row, "say 0 5 9998, sayings 0 0 2 2 = 2, of 0 5 = 9999",
        "sayings 0 0 2 1 = 1, of 0 5 = 9999, of 0 100 = 9999, sayings 0 0 0 4 = 4, of 0 5 = 9999, of 0 0 = 1",
        "of 0 99 = 1");
    run("the row is missing, or has no elements", "list 0 0, sayings 0 0 0 1 = 0, sayings 0 5 0 60 = 0",
        "sayings 0 5 -1 60 = 0, row 0 2 0, sayings 0 0 0 1 = 0, keep 0 -1, sayings 0 0 0 1 = 0",
        "sayings 0 0 0 0 = BAD, sayings 0 5 0 61 = BAD, of 0 100 = 0");
    run("to a LIST told, and no other", "list 0 0, list 0 0, row 0 2 1, put 0 0 42, sayings 1 0 0 1 = 1",
        "of 0 42 = 0, of 1 42 = 1, sayings 2 0 0 1 = BAD, element 0 0 = 42");
  }

  private static void sayingsFromOtherThanInts() {
    run("no ROW of ints: bytes, shorts, longs, booleans", "list 0 0",
        Script.with("row 0 # 2, sayings 0 0 0 1 = KIND, sayings 0 0 -1 1 = KIND, sayings 0 0 2 60 = KIND, "
            + "sayings 0 0 0 0 = BAD, sayings 0 0 0 61 = BAD, sayings 1 0 0 1 = BAD, row 0 # 0, "
            + "sayings 0 0 0 1 = KIND, of 0 0 = 0", "0", "1", "3", "4"));
    run("no ROW of ints: a SAYING", "list 0 0, body 0, keep 0 0, sayings 0 0 0 1 = KIND, sayings 0 0 MAX 60 = KIND",
        "sayings 0 0 0 0 = BAD, sayings 0 6 0 1 = BAD, row 0 2 1, sayings 0 0 0 1 = 1");
  }

  private static void count() {
    run("how many: 0 .. 7", "count -1 = BAD, count 8 = BAD, count MIN = BAD, count MAX = BAD, ",
        Script.each("count # = 0", 0, 7), "list 0 0, tape 1, measure 99, tape 1, measure 99, tape 1, law, tape 1",
        "law, tape 1, law, tape 1+1+, pair 0 0, pair 0 0, pair 0 0, pair 0 0, pair 0 0",
        Script.each("say 0 # 1", 0, 5), Script.times(7, "body 7"), "act 0 3 1, count -1 = BAD, count 0 = 1",
        "count 1 = 2, count 2 = 3, count 3 = 4, count 4 = 5, count 5 = 6, count 6 = 7, count 7 = 8, count 8 = BAD");
  }
}
