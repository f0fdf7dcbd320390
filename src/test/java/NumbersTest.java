/**
 * The numbers of LISTS, MEASURES, LAWS, SAYINGS, SHELVES: for each call that takes one the last that is there, the first
 * that is not, on both sides; and the AGES between, for each call that takes them. What is refused changes nothing.
 */
public final class NumbersTest {
  private static final Due due = new Due("NumbersTest");
  private static final String[] BELOW_AND_FAR = {"-1", "-8", "MIN", "MAX"};
  /** In each LIST one who says 5; MEASURE 0 has all AGES in; by LAW 0 all say 5; those of below 5 are on one side. */
  private static final String TEXTS = "tape 1, measure 99 = 0, tape 5, law = 0, line 6 = 0, ";

  public static void main(String[] args) {
    lists();
    twoLists();
    measures();
    laws();
    sayings();
    shelves();
    between();
    due.end();
  }

  private static String lists(int n) {
    StringBuilder b = new StringBuilder();
    for (int i = 0; i < n; i++) {
      b.append("list " + (1800 + i) + " " + 10 * i + " = " + i + ", say " + i + " 5 1 = 0, ");
    }
    return b.toString();
  }

  /** Of LISTS 0 .. n - 1 each call takes 0 and the last one, and no other. */
  private static void lists() {
    // A call, what it answers of a LIST that is there, and of none.
    String[][] calls = {
      {"of # 5", "1", "BAD"}, {"sayings # 5 0 1", "0", "BAD"}, {"measured # 0", "10000", "VOID"},
      {"share # 99 5", "1000", "BAD"}, {"off # 99", "900", "BAD"}, {"counted # 99 201", "20000", "VOID"},
      {"by # 99 0", "1905", "BAD"}, {"chance # 0 0 1", "1", "BAD"}, {"mended # 0 0 0", "10000", "VOID"},
      {"fits # 0 0", "0", "BAD"}, {"best # 0 0", "0", "BAD"}, {"side # 1", "1000", "BAD"}, {"mark # 1 7", null, "BAD"},
      {"mark # 0 7", null, "BAD"}, {"land # 0 1 0 0", "1", "BAD"}, {"say # 5 9", null, "BAD"},
    };
    for (int n : new int[] {1, 2, 8}) {
      for (String[] call : calls) {
        String good = call[1] == null ? "" : " = " + call[1];
        String title = "LISTS 0 .. " + (n - 1);
        Script.run(due, title, lists(n), TEXTS, Script.with(call[0] + " = " + call[2], BELOW_AND_FAR),
            Script.with(call[0] + " = " + call[2], "" + n, "8"), Script.with(call[0] + good, "0"),
            n == 1 ? "" : Script.with(call[0] + good, "" + (n - 1)));
      }
    }
    for (String[] call : calls) {
      Script.run(due, "no LISTS", TEXTS, call[0].replace("#", "0") + " = " + call[2]);
    }
    Script.run(due, "LISTS 0 .. 7, as they come", Script.each("list # # = #", 0, 7));
    Script.run(due, "LISTS 0 .. 7, no ninth", lists(8), "list 0 0 = FULL, list 9999 1000 = FULL, list 0 1001 = BAD",
        "list -1 0 = BAD, count 0 = 8, of 7 101 = 1807, of 7 102 = 70");
  }

  /** Two LISTS by 10 times the one and the other. */
  private static void twoLists() {
    String bad = "apart # 99 = BAD, drawn # 99 3 4 = BAD";
    String good = "apart # 99 = 0, drawn # 99 3 4 = 4";
    String alike = Script.with(bad, "0", "11", "22", "33", "44", "55", "66", "77", "88", "99");
    String far = Script.with(bad, "-1", "-10", "-11", "100", "101", "110", "107", "MIN", "MAX");
    Script.run(due, "two of LISTS 0 .. 7", lists(8), Script.with(good, "1", "10", "7", "70", "67", "76"));
    Script.run(due, "two of LISTS 0 .. 7", lists(8), Script.with(bad, "8", "9", "78", "80", "87", "79", "89"), far,
        alike);
    Script.run(due, "two of LISTS 0 and 1", lists(2), Script.with(good, "1", "10"), far);
    Script.run(due, "two of LISTS 0 and 1", lists(2), Script.with(bad, "2", "12", "20", "21", "0", "11", "22"));
    Script.run(due, "two of one LIST", lists(1), Script.with(bad, "0", "1", "10", "11"));
    Script.run(due, "two of no LISTS", Script.with(bad, "0", "1", "10"));
  }

  private static void measures() {
    String[][] calls = {
      {"isIn # 5", "1", "BAD"}, {"measured 0 #", "10000", "VOID"}, {"chance 0 # 0 1", "1", "BAD"},
      {"mended 0 # 50 1", "10000", "VOID"}, {"years #", "0", "VOID"}, {"beside #", "0", "VOID"},
    };
    for (int n : new int[] {0, 1, 2, 6}) {
      for (String[] call : calls) {
        String bad = call[0] + " = " + call[2];
        String good = call[0] + " = " + call[1];
        Script.run(due, n + " MEASURES", lists(2), Script.times(n, "tape 1, measure 99"),
            Script.with(bad, BELOW_AND_FAR), Script.with(bad, "" + n, "6"),
            n == 0 ? "" : Script.with(good, "0", "" + (n - 1)));
      }
    }
    Script.run(due, "MEASURES 0 .. 5", "tape 1, measure 99 = 0, tape 1, measure 0 = 1, tape 1, measure 9999 = 2",
        "tape 1, measure 4040 = 3, tape 1, measure 1 = 4, tape 1, measure 98 = 5, count 1 = 6");
    Script.run(due, "no seventh MEASURE: THE TAPE stays", Script.times(6, "tape 1, measure 99"), "measure 99 = FULL",
        "tape 7, measure 99 = FULL, measure 100 = BAD, count 1 = 6, count 3 = 1, law = 0, says 0 0 0 = 7");
  }

  private static void laws() {
    String[][] calls = {
      {"says # 50 0", "5"}, {"truly # 5 0 0", "10"}, {"fits 0 # 0", "0"}, {"land 0 # 1 0 0", "1"},
    };
    for (int n : new int[] {0, 1, 2, 6}) {
      for (String[] call : calls) {
        Script.run(due, n + " LAWS", lists(2), Script.times(n, "tape 5, law"),
            Script.with(call[0] + " = BAD", BELOW_AND_FAR), Script.with(call[0] + " = BAD", "" + n, "6"),
            n == 0 ? "" : Script.with(call[0] + " = " + call[1], "0", "" + (n - 1)));
      }
    }
    Script.run(due, "LAWS 0 .. 5", "tape 1, law = 0, tape 1, law = 1, tape 1, law = 2, tape 1, law = 3, tape 1",
        "law = 4, tape 1, law = 5, count 2 = 6");
    Script.run(due, "no seventh LAW: THE TAPE stays", Script.times(6, "tape 1, law"), "law = FULL, tape a=7",
        "law = FULL, count 2 = 6, count 3 = 3, measure 99 = 0, isIn 0 7 = 1, isIn 0 8 = 0");
  }

  private static void sayings() {
    for (int n : new int[] {0, 1, 2, 50}) {
      String last = "" + (n - 1);
      Script.run(due, n + " SAYINGS", Script.times(n, "body 0"), Script.with("keep 0 # = BAD", "-2", "MIN", "MAX"),
          Script.with("keep 0 # = BAD", "" + n, "50"), n == 0 ? "" : Script.with("keep 0 # = 1", "0", last),
          "keep 0 -1 = 1");
      Script.run(due, "acts of " + n + " SAYINGS", Script.times(n, "body 0"), n == 0 ? "" : "act 0 0 100 = 100",
          n == 0 ? "" : "act " + last + " 0 100 = " + (100 + n - 1) + ", trace 0 = 1",
          Script.with("act # 0 100 = 0, trace 0 = BAD, count 7 = 0", BELOW_AND_FAR),
          Script.with("act # 0 100 = 0, trace 0 = BAD, count 7 = 0", "" + n, "50"));
    }
    Script.run(due, "SAYINGS 0 .. 49", Script.each("body 3 = #", 0, 49));
    Script.run(due, "no fifty-first SAYING", Script.times(50, "body 3"), "body 3 = FULL, body 0 = FULL",
        "body 8 = BAD, body -1 = BAD, count 6 = 50");
    Script.run(due, "KINDS 0 .. 7", "body 0 = 0, body 7 = 1, body 8 = BAD, body -1 = BAD, body MIN = BAD",
        "body MAX = BAD, count 6 = 2");
  }

  private static void shelves() {
    // A call, what it answers of a SHELF with a ROW of two ints, and of none.
    String[][] calls = {
      {"sayings 0 # 0 1", "1", "BAD"}, {"put # 1 5", "1", "BAD"}, {"element # 1", "0", "NONE"},
      {"shift # 0 0 0 1", "1", "BAD"}, {"shift 0 0 # 0 1", "1", "BAD"}, {"shift # 0 # 0 1", "1", "BAD"},
      {"taken # 0", "KIND", "BAD"}, {"keep # -1", "1", "BAD"}, {"row # 2 2", "1", "BAD"}, {"row # 2 -1", "SIZE", "BAD"},
    };
    for (String[] call : calls) {
      Script.run(due, "SHELVES 0 .. 5", "list 0 0", Script.with("row # 2 2", "0", "5"),
          Script.with(call[0] + " = " + call[2], BELOW_AND_FAR), Script.with(call[0] + " = " + call[2], "6"),
          Script.with(call[0] + " = " + call[1], "5"), Script.with(call[0] + " = " + call[1], "0"));
    }
    String nothing = "put # 0 0 = NOTHING, element # 0 = NONE, taken # 0 = NOTHING, shift # 0 # 0 0 = NOTHING";
    Script.run(due, "SHELVES hold nothing at first", Script.with(nothing, "0", "1", "2", "3", "4", "5"));
  }

  /** 100 times the first AGE and the last one, not less. One says 0, one 1, one 98, one 99. */
  private static void between() {
    String people = "list 0 0, list 0 0, " + Script.with("say # 0 1, say # 1 1, say # 98 1, say # 99 1", "0", "1");
    String[] wrong = {"-1", "-100", "100", "9800", "9897", "9998", "10000", "10099", "MIN", "MAX"};
    String[] right = {"0", "1", "99", "101", "9898", "9899", "9999"};
    String[][] calls = {
      {"share 0 # 9", "BAD"}, {"off 0 #", "BAD"}, {"counted 0 # 200", "VOID"}, {"by 0 # 1", "BAD"}, {"apart 1 #", "BAD"},
      {"drawn 1 # 5 1", "BAD"},
    };
    // What each call answers between each of such AGES.
    String[][] answers = {
      {"0", "0", "250", "0", "0", "500", "1000"},
      // 1: of 0 once, of 1 twice; 99: 1, 2, 10, 10 of 23; 9899: as 1.
      {"900", "799", "669", "900", "900", "799", "900"},
      {"10000", "10000", "10000", "VOID", "10000", "10000", "VOID"},
      // 99: by 14 (0 and 98) there are two of the four in 8 of 100 AGES.
      {"10000", "10000", "62500", "10000", "10000", "10000", "10000"},
      {"0", "0", "0", "0", "0", "0", "0"},
      {"1", "1", "1", "1", "1", "1", "1"},
    };
    for (int i = 0; i < calls.length; i++) {
      StringBuilder b = new StringBuilder(people);
      for (int j = 0; j < right.length; j++) {
        b.append(calls[i][0].replace("#", right[j])).append(" = " + answers[i][j] + ", ");
      }
      Script.run(due, "first AGE, last AGE", b.toString(), Script.with(calls[i][0] + " = " + calls[i][1], wrong));
    }
    for (String w : right) {
      Script.run(due, "a MEASURE's first AGE, last AGE", "tape 1, measure " + w + " = 0, count 3 = 0, count 1 = 1");
    }
    Script.run(due, "a MEASURE's first AGE, last AGE: THE TAPE stays", "tape a=9, ",
        Script.with("measure # = BAD", wrong), "count 3 = 3, count 1 = 0, measure 9 = 0, isIn 0 9 = 1");
  }
}
