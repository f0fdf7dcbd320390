/**
 * "What is answered so changes nothing": each refusal of each call, in worlds in which there is something of all that can
 * change. Script reads the whole state ahead of each and behind it.
 */
public final class UnchangedTest {
  private static final Due due = new Due("UnchangedTest");

  // SHELVES: 0 a SAYING, 1 ints, 2 longs, 3 nothing, 4 booleans, 5 nothing.
  private static final String SHELVES = "keep 0 3 = 1, row 1 2 3, put 1 0 40, put 1 1 100, put 1 2 7, row 2 3 2, "
      + "put 2 1 77, row 4 4 2, put 4 0 1, ";
  /** LIST 1 has 2008 people, LIST 2 none; MEASURE 1 has no AGES in; by LAW 1 all say 50; two changes are undone. */
  private static final String WORLD = "list 1850 300, list 1880 600, list 1900 100, tape u=0, measure 99, tape 0, "
      + "measure 99, tape k?a;a/10*10, law, tape 50, law, pair 4040 10, pair 4049 10, pair 3939 1, line 40, "
      + Script.each("body #", 0, 7) + SHELVES
      + "say 0 5 20, say 0 40 120, say 0 39 30, mark 0 0 1851, mark 0 1 301, say 1 40 2001, say 1 41 7, "
      + "say 2 98 4, say 2 98 0, say 0 99 8, say 1 99 9, undo = 10, undo = 9, tape a+7, act 7 3 1, count 7 = 8";

  public static void main(String[] args) {
    lists();
    textsAndEnds();
    laws();
    pairs();
    shelves();
    full();
    noneThere();
    due.end();
  }

  private static void run(String title, String... told) {
    Script.run(due, title, told);
  }

  private static void lists() {
    run("list()", WORLD, "list -1 0 = BAD, list 10000 0 = BAD, list 0 -1 = BAD, list 0 1001 = BAD");
    run("mark()", WORLD, "mark 3 0 5 = BAD, mark -1 0 5 = BAD, mark 0 2 5 = BAD, mark 0 -1 5 = BAD, mark 0 0 10000 = BAD",
        "mark 0 0 -1 = BAD, mark 0 1 1001 = BAD, mark 0 1 -1 = BAD");
    run("say()", WORLD, "say 3 5 5 = BAD, say -1 5 5 = BAD, say 0 100 5 = BAD, say 0 -1 5 = BAD, say 0 5 10000 = BAD",
        "say 0 5 -1 = BAD");
    run("sayings()", WORLD, "sayings 3 1 0 1 = BAD, sayings -1 1 0 1 = BAD, sayings 0 6 0 1 = BAD",
        "sayings 0 -1 0 1 = BAD, sayings 0 1 0 0 = BAD, sayings 0 1 0 61 = BAD, sayings 0 0 0 1 = KIND",
        "sayings 0 2 0 1 = KIND, sayings 0 4 0 1 = KIND");
    run("of()", WORLD, "of 3 0 = BAD, of -1 0 = BAD, of 0 103 = BAD, of 0 -1 = BAD");
    run("feed()", WORLD, "feed 0 97 = BAD, feed 5 97 = BAD, feed -1 97 = BAD");
    run("count()", WORLD, "count 8 = BAD, count -1 = BAD");
  }

  private static void textsAndEnds() {
    run("measure()", WORLD, "measure -1 = BAD, measure 100 = BAD, measure 10000 = BAD");
    run("isIn()", WORLD, "isIn 2 5 = BAD, isIn -1 5 = BAD, isIn 0 100 = BAD, isIn 0 -1 = BAD");
    run("measured()", WORLD, "measured 3 0 = VOID, measured 0 2 = VOID, measured 2 0 = VOID, measured 0 1 = VOID");
    run("share()", WORLD, "share 3 99 0 = BAD, share 0 100 0 = BAD, share 0 99 10 = BAD, share 2 99 0 = NOT");
    run("off()", WORLD, "off 3 99 = BAD, off 0 100 = BAD, off 2 99 = NOT");
    run("counted()", WORLD, "counted 3 99 200 = VOID, counted 0 100 200 = VOID, counted 0 99 100 = VOID",
        "counted 0 99 202 = VOID, counted 0 99 -1 = VOID, counted 2 99 200 = VOID, counted 0 4040 201 = VOID");
    run("by()", WORLD, "by 3 99 0 = BAD, by 0 100 0 = BAD, by 0 99 2 = BAD, by 2 99 0 = NOT");
    run("chance()", WORLD, "chance 3 0 1 1 = BAD, chance 0 2 1 1 = BAD, chance 0 0 1 0 = BAD, chance 0 0 1 51 = BAD",
        "chance 1 0 1 1 = BIG, chance 1 1 1 1 = BIG, chance 0 1 1 1 = NOT, chance 2 0 1 1 = NOT");
    run("mended()", WORLD, "mended 3 0 1 0 = VOID, mended 0 2 1 0 = VOID, mended 0 0 51 0 = VOID, mended 0 0 1 2 = VOID",
        "mended 2 0 1 0 = VOID, mended 0 1 1 1 = VOID");
  }

  private static void laws() {
    run("land()", WORLD, "land 3 0 1 0 1 = BAD, land 0 2 1 0 1 = BAD, land 0 0 0 0 1 = BAD, land 0 0 401 0 1 = BAD",
        "land 0 0 1 4 1 = BAD, land 0 0 1 1010 1 = BAD");
    run("says()", WORLD, "says 2 5 0 = BAD, says 0 100 0 = BAD, says 0 5 4 = BAD, says 0 5 2000 = BAD",
        "says 0 5 -1 = BAD");
    run("truly()", WORLD, "truly 2 5 0 0 = BAD, truly 0 100 0 0 = BAD, truly 0 5 4 0 = BAD, truly 0 5 0 2 = BAD",
        "truly 1 49 0 0 = NOT, truly 1 49 0 1 = NOT");
    run("fits()", WORLD, "fits 3 0 0 = BAD, fits 0 2 0 = BAD, fits 0 0 4 = BAD");
    run("best()", WORLD, "best 3 0 0 = BAD, best 0 4 0 = BAD, best 0 0 2 = BAD");
  }

  private static void pairs() {
    run("pair()", WORLD, "pair -1 5 = BAD, pair 10000 5 = BAD, pair 0 -1 = BAD, pair 0 61 = BAD");
    run("goes()", WORLD, "goes -1 = BAD, goes 4 = BAD");
    run("line()", WORLD, "line -1 = BAD, line 100 = BAD");
    run("side()", WORLD, "side 3 5 = BAD, side 0 0 = BAD, side 0 11 = BAD, side 2 5 = NOT");
    run("apart()", WORLD, "apart 0 99 = BAD, apart 3 99 = BAD, apart 1 100 = BAD, apart 2 99 = NOT, apart 20 99 = NOT");
    run("drawn()", WORLD, "drawn 0 99 1 1 = BAD, drawn 3 99 1 1 = BAD, drawn 1 100 1 1 = BAD, drawn 1 99 1 0 = BAD",
        "drawn 1 99 1 51 = BAD, drawn 1 99 1 1 = BIG, drawn 12 99 1 1 = BIG, drawn 2 99 1 1 = NOT",
        "drawn 20 99 1 1 = NOT");
    run("years()", WORLD, "years 2 = VOID, years -1 = VOID, years 1 = NOT");
    run("beside()", WORLD, "beside 2 = VOID, beside -1 = VOID");
  }

  private static void shelves() {
    run("body()", WORLD, "body -1 = BAD, body 8 = BAD");
    run("trace()", WORLD, "trace -1 = BAD, trace 8 = BAD, trace 24 = BAD");
    run("keep()", WORLD, "keep 6 0 = BAD, keep -1 0 = BAD, keep 0 8 = BAD, keep 1 -2 = BAD, keep 3 50 = BAD");
    run("row()", WORLD, "row 6 2 3 = BAD, row 0 5 3 = BAD, row 1 -1 3 = BAD, row 2 2 61 = BAD, row 0 2 -1 = SIZE",
        "row 1 2 -1 = SIZE, row 3 0 -1 = SIZE");
    run("put()", WORLD, "put 6 0 1 = BAD, put -1 0 1 = BAD, put 3 0 1 = NOTHING, put 0 0 1 = KIND, put 1 3 1 = PLACE",
        "put 1 -1 1 = PLACE");
    run("element()", WORLD, "element 6 0 = NONE, element 3 0 = NONE, element 0 0 = NONE, element 1 3 = NONE");
    run("shift()", WORLD, "shift 6 0 1 0 1 = BAD, shift 1 0 6 0 1 = BAD, shift 3 0 1 0 1 = NOTHING",
        "shift 1 0 3 0 1 = NOTHING, shift 0 0 1 0 1 = KIND, shift 1 0 0 0 1 = KIND, shift 1 0 2 0 1 = KIND",
        "shift 1 1 1 0 3 = PLACE, shift 1 0 1 1 3 = PLACE, shift 1 0 1 1 -1 = PLACE");
    run("taken()", WORLD, "taken 6 0 = BAD, taken 0 8 = BAD, taken 0 -1 = BAD, taken 3 0 = NOTHING, taken 0 1 = KIND",
        "taken 1 0 = KIND");
  }

  /** Eight LISTS, six MEASURES, six LAWS, 120 bytes, 60 PAIRS, 40 changes that are kept, 50 SAYINGS. */
  private static void full() {
    String things = Script.each("list 180# 1#", 0, 7) + Script.times(6, "tape a=40, measure 99, tape a+k, law")
        + Script.each("pair 40# 9", 10, 69) + Script.times(6, Script.each("body #", 0, 7)) + "body 7, body 7, "
        + SHELVES + "line 41, ";
    String tape = "tape " + "1+".repeat(59) + "40, ";
    String changes = Script.each("say 0 40 #", 1, 42) + "act 49 3 1, ";
    String refused = "list 0 0 = FULL, pair 0 0 = FULL, body 0 = FULL, measure 99 = FULL, law = FULL, feed 1 97 = FULL";
    run("all full", things, tape, changes, "count 5 = 40, redo = STATE", refused);
    run("all full, some undone", things, tape, changes, "undo = 39, undo = 38", refused);
    String sixMeasures = Script.times(6, "tape a=40, measure 99");
    run("only MEASURES full, a TEXT on THE TAPE", sixMeasures, "tape a+9, measure 99 = FULL, law = 0, says 0 5 0 = 14");
    String sixLaws = Script.times(6, "tape a+k, law");
    run("only LAWS full, a TEXT on THE TAPE", sixLaws, "tape a=9, law = FULL, measure 99 = 0, isIn 0 9 = 1");
    run("full, with a FAULT on THE TAPE", sixMeasures, sixLaws, "tape a+, measure 99 = FULL, law = FULL, count 3 = 2");
  }

  /** What is wanted is not there: no change to undo or redo, no LAWS, no YEARS. */
  private static void noneThere() {
    run("undo(): STATE, with all undone", WORLD, Script.times(9, "undo"), "undo = STATE, undo = STATE, redo = 10");
    run("redo(): STATE, with none undone", WORLD, "redo = 1, redo = 0, redo = STATE, redo = STATE, undo = 10");
    run("redo(): STATE, with another behind", WORLD, "say 0 5 21, redo = STATE, undo = 9, redo = 0");
    String noLaws = "list 5 6, list 5 7, say 0 5 1, say 0 5 2, say 1 5 3, undo = 2, pair 4041 0, line 7, body 3, "
        + "act 0 3 1, row 0 2 2, tape a+1, ";
    run("best(): STATE", noLaws, "best 0 0 0 = STATE, best 0 0 1 = STATE");
    run("mean(): VOID", noLaws, "mean = VOID");
    run("years(): NOT, with a MEASURE", "tape 1, measure 99, ", noLaws, "years 0 = NOT, redo = 0, years 0 = NOT");
  }
}
