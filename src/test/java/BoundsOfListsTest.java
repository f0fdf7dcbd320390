/** Section 1, sentence by sentence: the last value that is good, the first that is not; refusals change nothing. */
public final class BoundsOfListsTest {
  private static final Due due = new Due("BoundsOfListsTest");

  public static void main(String[] args) {
    lists();
    counts();
    tape();
    names();
    numbersAndSigns();
    ints();
    lines();
    open();
    faults();
    measures();
    due.end();
  }

  private static void run(String title, String... told) {
    Script.run(due, title, told);
  }

  private static void lists() {
    run("YEAR (0 .. 9999): list()", "list -1 0 = BAD, list 10000 0 = BAD, list MIN 0 = BAD, list MAX 0 = BAD",
        "count 0 = 0, list 0 0 = 0, list 9999 0 = 1, list 10000 0 = BAD, list -1 0 = BAD, count 0 = 2, of 0 101 = 0",
        "of 1 101 = 9999");
    run("SIGNED (0 .. 1000): list()", "list 0 -1 = BAD, list 0 1001 = BAD, list 0 MIN = BAD, list 0 MAX = BAD",
        "count 0 = 0, list 0 0 = 0, list 0 1000 = 1, list 0 1001 = BAD, list 0 -1 = BAD, count 0 = 2, of 0 102 = 0",
        "of 1 102 = 1000");
    run("YEAR (0 .. 9999): mark()", "list 1850 300 = 0, mark 0 0 9999 = 1850, mark 0 0 10000 = BAD, of 0 101 = 9999",
        "mark 0 0 0 = 9999, mark 0 0 -1 = BAD, mark 0 0 MIN = BAD, mark 0 0 MAX = BAD, of 0 101 = 0, of 0 102 = 300");
    run("SIGNED (0 .. 1000): mark()", "list 1850 300 = 0, mark 0 1 1000 = 300, mark 0 1 1001 = BAD, of 0 102 = 1000",
        "mark 0 1 0 = 1000, mark 0 1 -1 = BAD, mark 0 1 9999 = BAD, mark 0 1 MIN = BAD, mark 0 1 MAX = BAD",
        "of 0 102 = 0, of 0 101 = 1850, mark 0 0 1001 = 1850");
    run("YEAR (what 0), SIGNED (1)", "list 5 6 = 0, mark 0 -1 7 = BAD, mark 0 2 7 = BAD, mark 0 101 7 = BAD",
        "mark 0 MIN 7 = BAD, mark 0 MAX 7 = BAD, mark 0 0 7 = 5, mark 0 1 8 = 6, of 0 101 = 7, of 0 102 = 8",
        "count 5 = 2");
    run("of(): an AGE (0 .. 99), all 100, YEAR 101, SIGNED 102", "list 1850 300, say 0 0 3, say 0 99 4",
        "of 0 -1 = BAD, of 0 0 = 3, of 0 99 = 4, of 0 100 = 7, of 0 101 = 1850, of 0 102 = 300, of 0 103 = BAD",
        "of 0 MIN = BAD, of 0 MAX = BAD");
  }

  private static void counts() {
    run("AGE 0 .. 99: say()", "list 0 0, say 0 -1 5 = BAD, say 0 100 5 = BAD, say 0 MIN 5 = BAD, say 0 MAX 5 = BAD",
        "say 0 101 5 = BAD, say 0 0 5 = 0, say 0 99 6 = 0, of 0 0 = 5, of 0 99 = 6, of 0 100 = 11, count 5 = 2");
    run("0 .. 9999 each", "list 0 0, say 0 7 9999 = 0, say 0 7 10000 = BAD, of 0 7 = 9999, say 0 7 0 = 9999",
        "say 0 7 -1 = BAD, say 0 7 MIN = BAD, say 0 7 MAX = BAD, of 0 7 = 0, count 5 = 2");
    run("0 at first", "list 0 0, list 0 0", Script.each("of 0 # = 0", 0, 100), Script.each("of 1 # = 0", 0, 100));
    run("of all 100", "list 0 0", Script.each("say 0 # 9999 = 0", 0, 99), "of 0 100 = 999900, undo = 39",
        "of 0 100 = 989901");
  }

  private static void tape() {
    run("n (1 .. 4) bytes", "feed 0 97 = BAD, feed -1 97 = BAD, feed 5 97 = BAD, feed MIN 97 = BAD",
        "feed MAX 97 = BAD, count 3 = 0, feed 1 97 = 1, feed 4 757866027 = 5, feed 5 97 = BAD, feed 0 97 = BAD",
        "count 3 = 5");
    run("the lowest of v first, only n of them", "feed 1 " + ('a' | ')' << 8) + " = 1, law = 0, says 0 42 0 = 42",
        "feed 2 " + ('a' | '+' << 8 | ')' << 16) + " = 2, feed 3 " + ('1' | '+' << 8 | '2' << 16 | ')' << 24) + " = 5",
        "law = 1, says 1 42 0 = 45, feed 4 " + ('9' | '-' << 8 | '1' << 16 | '0' << 24) + " = 4, law = 2, says 2 0 0 = 0",
        "feed 4 MIN = 4, law = -100, feed 4 -1 = 4, law = -100, count 3 = 0");
    String most = Script.times(29, "feed 4 825307441");
    run("at most 120 bytes, from 116", most, "count 3 = 116, feed 4 0 = 120, feed 1 0 = FULL, feed 4 0 = FULL",
        "count 3 = 120");
    run("at most 120 bytes, from 117", most, "feed 1 0 = 117, feed 4 0 = FULL, feed 3 0 = 120, feed 1 0 = FULL",
        "feed 0 0 = BAD");
    run("at most 120 bytes, from 118", most, "feed 2 0 = 118, feed 3 0 = FULL, feed 4 0 = FULL, feed 2 0 = 120",
        "feed 2 0 = FULL");
    run("at most 120 bytes, from 119", most, "feed 3 0 = 119, feed 2 0 = FULL, feed 3 0 = FULL, feed 1 0 = 120",
        "feed 5 0 = BAD");
    run("a TEXT of 120 bytes",
        "tape " + "1+".repeat(59) + "-9, count 3 = 120, law = 0, count 3 = 0, says 0 0 0 = 50");
    run("a TEXT of 120 bytes that ends too early",
        "tape " + "1+".repeat(60) + ", law = -220, count 3 = 0, count 2 = 0");
    run("a FAULT in the last of 120 bytes", "tape " + "1+".repeat(59) + "1), law = -219, count 3 = 0, count 2 = 0");
    run("a text that would have 121", "tape " + "1+".repeat(60) + ", feed 1 49 = FULL, law = -220");
  }

  /** What a LAW says of an AGE, of one who knows (or not), by a draw, a sort. */
  private static String says(String text, int age, int kz, int want) {
    return "tape " + text + ", law, says 0 " + age + " " + kz + " = " + want;
  }

  private static void names() {
    int[] ages = {0, 1, 4, 5, 9, 10, 11, 12, 13, 24, 59, 60, 98, 99};
    for (int age : ages) {
      run("a an AGE", says("a", age, 0, age));
      run("u its last figure", says("u", age, 0, age - age / 10 * 10));
      run("f its rest by 5", says("f", age, 0, age - age / 5 * 5));
      run("w its rest by 12", says("w", age, 0, age - age / 12 * 12));
    }
    run("k whether one knows it (1, 0)", "tape k+5, law, says 0 0 0 = 5, says 0 0 999 = BAD, says 0 0 993 = 5",
        "says 0 0 1000 = 6, says 0 0 1993 = 6, says 0 0 2000 = BAD");
    run("z a draw (0 .. 99)", "tape z, law, says 0 50 0 = 0, says 0 50 10 = 1, says 0 50 990 = 99",
        "says 0 50 1000 = 0, says 0 50 1993 = 99");
    run("s a sort of people (0 .. 3)", "tape s, law, says 0 50 0 = 0, says 0 50 1 = 1, says 0 50 3 = 3",
        "says 0 50 4 = BAD, says 0 50 9 = BAD, says 0 50 1993 = 3");
    run("l the LINE", "tape l, law, says 0 50 0 = 0, line 99 = 0, says 0 50 0 = 99, line 100 = BAD",
        "says 0 50 0 = 99");
    run("a NAME that is not said of the USE is 0", "line 7 = 0, tape a=k, measure 99, tape a=z, measure 99, tape a=s",
        "measure 99, tape a=l, measure 99", Script.each("isIn # 0 = 1", 0, 3), Script.each("isIn # 1 = 0", 0, 3),
        Script.each("isIn # 7 = 0", 0, 3));
    run("a MEASURE's own NAMES", "tape a=47, measure 99, tape u=7, measure 99, tape f=2, measure 99, tape w=11",
        "measure 99", Script.each("isIn # 47 = 1", 0, 3), Script.each("isIn # 48 = 0", 0, 3), "isIn 1 57 = 1",
        "isIn 2 52 = 1, isIn 3 59 = 1");
    run("held within 0 .. 99", says("0-1", 0, 0, 0), "tape 0-0, law, says 1 0 0 = 0, tape 99, law, says 2 0 0 = 99",
        "tape 100, law, says 3 0 0 = 99, tape 9999*9999*9, law, says 4 0 0 = 99, tape 1-9999*9999*9, law",
        "says 5 0 0 = 0");
  }

  private static void numbersAndSigns() {
    run("a number (1 to 4 digits)", "tape 9, law = 0, says 0 0 0 = 9, tape 9999-9900, law = 1, says 1 0 0 = 99",
        "tape 0042, law = 2, says 2 0 0 = 42, tape 00042, law = -104, tape 12345, law = -104, tape a+12345",
        "law = -106, tape 1234a, law = -104, tape 1 2, law = -101, count 2 = 3, count 3 = 0");
    run("< compares", says("(4<5)*7", 0, 0, 7), "tape 5<5, law, says 1 0 0 = 0, tape 6<5, law, says 2 0 0 = 0",
        "tape -6<-5, law, says 3 0 0 = 1");
    run("= compares", says("(5=5)*7", 0, 0, 7), "tape 4=5, law, says 1 0 0 = 0, tape 6=5, law, says 2 0 0 = 0");
    run("> compares", says("(6>5)*7", 0, 0, 7), "tape 5>5, law, says 1 0 0 = 0, tape 4>5, law, says 2 0 0 = 0",
        "tape -5>-6, law, says 3 0 0 = 1");
    run("| gives 1, 0", says("(0|0)+7", 0, 0, 7), "tape (3|0)+7, law, says 1 0 0 = 8, tape (0|-3)+7, law",
        "says 2 0 0 = 8, tape (3|5)+7, law, says 3 0 0 = 8");
    run("& gives 1, 0", says("(0&0)+7", 0, 0, 7), "tape (3&0)+7, law, says 1 0 0 = 7, tape (0&3)+7, law",
        "says 2 0 0 = 7, tape (3&-5)+7, law, says 3 0 0 = 8, tape (2&4)+7, law, says 4 0 0 = 8");
    run("! gives 1, 0", says("!0+7", 0, 0, 8), "tape !1+7, law, says 1 0 0 = 7, tape !-1+7, law, says 2 0 0 = 7",
        "tape !!9+7, law, says 3 0 0 = 8");
    run("B = S, or S < S: one comparison at most", "tape a<1&a>1, law = 0, tape (a<1)<1, law = 1, tape a<1<1",
        "law = -103, tape a=1=1, law = -103, tape a>1<1, law = -103, tape a<1+1=2, law = -105, count 2 = 2",
        "count 3 = 0");
    run("what binds more", says("1|0&0", 0, 0, 1), "tape 0&0|1, law, says 1 0 0 = 1, tape 1&2<3, law",
        "says 2 0 0 = 1, tape 2<1+2, law, says 3 0 0 = 1, tape 1+2*3, law, says 4 0 0 = 7, tape -1+2, law",
        "says 5 0 0 = 1");
    run("from the left", says("20-5-3", 0, 0, 12), "tape 90/4/2, law, says 1 0 0 = 11, tape 50%30*2, law",
        "says 2 0 0 = 40, tape 7*8/10%4, law, says 3 0 0 = 1");
  }

  private static void ints() {
    // 8192 * 8192 * 32 is 2 to the 31st: the least int.
    run("Ints that wrap: *", says("8192*8192*32<0", 0, 0, 1), "tape 8192*8192*64+5, law, says 1 0 0 = 5",
        "tape 9999*9999*21>0, law, says 2 0 0 = 1, tape 9999*9999*22<0, law, says 3 0 0 = 1",
        "tape 9999*9999*43/100000, law = -117, tape 9999*9999*43/1000/1000, law, says 4 0 0 = 4");
    run("Ints that wrap: +, -", says("8192*8192*32-1>0", 0, 0, 1), "tape 8192*8192*32-1+1<0, law, says 1 0 0 = 1",
        "tape 8192*8192*32+8192*8192*32+6, law, says 2 0 0 = 6, tape -(8192*8192*32)<0, law, says 3 0 0 = 1",
        "tape 0-8192*8192*32<0, law, says 4 0 0 = 1");
    run("/ of the least by -1", says("8192*8192*32/-1<0", 0, 0, 1), "tape 8192*8192*32%-1+4, law, says 1 0 0 = 4",
        "tape 8192*8192*32/-1=8192*8192*32, law, says 2 0 0 = 1");
    run("/ toward 0", says("7/2", 0, 0, 3), "tape -7/2+9, law, says 1 0 0 = 6, tape 7/-2+9, law, says 2 0 0 = 6",
        "tape -7/-2, law, says 3 0 0 = 3, tape -1/2+9, law, says 4 0 0 = 9");
    run("% toward 0", says("7%4", 0, 0, 3), "tape -7%4+9, law, says 1 0 0 = 6, tape 7%-4, law, says 2 0 0 = 3",
        "tape -7%-4+9, law, says 3 0 0 = 6, tape 8%4, law, says 4 0 0 = 0");
    run("by 0 they give 0", says("7/0", 0, 0, 0), "tape 7%0, law, says 1 0 0 = 0, tape 5+7/(a-a), law",
        "says 2 33 0 = 5, tape 5+7%(a-a), law, says 3 33 0 = 5, tape 0/0+1, law, says 4 0 0 = 1, tape 7/1, law",
        "says 5 0 0 = 7");
    run("all is worked out", says("0&7/0", 0, 0, 0), "tape 1|7%0, law, says 1 0 0 = 1");
  }

  private static void lines() {
    run("LINES, one or more", "law = -100, tape ;, law = -100, tape 1, law = 0, tape 1;2, law = 1, tape 1;",
        "law = -102, tape ;1, law = -100, tape 1;;2, law = -102, count 2 = 2");
    run("LINE: E, or E ? E", "tape a?1, law = 0, tape a?, law = -102, tape ?1, law = -100, tape a?1?2, law = -103",
        "tape a?1;a?2, law = 1, tape (a?1), law = -102, tape a?;1, law = -102");
    run("E ? E: each a whole E", "tape 0|5?0|6;7, law = 0, says 0 0 0 = 1, tape 0?1;2&0|3, law = 1, says 1 0 0 = 1",
        "tape 1&0?6;7, law = 2, says 2 0 0 = 7, tape 1?5+a*2, law = 3, says 3 7 0 = 19");
    run("the first LINE without a first E counts", "tape 7;8;9, law, says 0 0 0 = 7, tape a?1;8;9, law",
        "says 1 0 0 = 8");
    run("whose first E is not 0", "tape a-5?7;8, law, says 0 4 0 = 7, says 0 5 0 = 8, says 0 6 0 = 7",
        "tape a>5?1;a>3?2;a>1?3, law, says 1 6 0 = 1, says 1 5 0 = 2, says 1 4 0 = 2, says 1 3 0 = 3",
        "says 1 2 0 = 3");
    run("none: 0", "tape a>5?9, law, says 0 6 0 = 9, says 0 5 0 = 0, tape a>5?9;a<5?8, law, says 1 5 0 = 0",
        "says 1 4 0 = 8");
    run("none: 0, in a MEASURE", "tape a>5?1, measure 99, isIn 0 5 = 0, isIn 0 6 = 1");
    run("no blanks", "tape a +1, law = -101, tape  a, law = -100, tape a , law = -101, tape 1 1, law = -101",
        "count 2 = 0");
  }

  private static void open() {
    run("6 of ( are open", "tape ((((((7)))))), law = 0, says 0 0 0 = 7, tape (((((((7))))))), law = -106");
    run("6 of ! are open", "tape !!!!!!7, law = 0, says 0 0 0 = 1, tape !!!!!!!7, law = -106");
    run("6 of - are open", "tape ------7, law = 0, says 0 0 0 = 7, tape -------7, law = -106");
    run("6 of all are open", "tape (!-(!-7)), law = 0, says 0 0 0 = 1, tape (!-(!-!7)), law = -106",
        "tape -(!(-((7)))), law = -106");
    run("what is closed is open no more", "tape !!!!!!7+!!!!!!7, law = 0, says 0 0 0 = 2",
        "tape ((((((7))))))*((((((2)))))), law = 1, says 1 0 0 = 14, tape (!!!!!0)+(!!!!!0), law = 2",
        "says 2 0 0 = 2, tape !!!!!!7+!!!!!!!7, law = -114");
    run("a part behind another has what is open around it", "tape (1+!!!!!7), law = 0, tape (1+!!!!!!7), law = -108",
        "tape ((1)+-----7), law = 1, says 1 0 0 = 0, tape ((1)+------7), law = -110, tape ((1)+-----7, law = -111");
    run("- behind an O opens nothing", "tape 9-1-1-1-1-1-1-1-1, law = 0, says 0 0 0 = 1, tape 9-------1, law = 1",
        "says 1 0 0 = 8, tape 9--------1, law = -108");
    run("6 are open behind ? and ; too", "tape 1?!!!!!!7, law = 0, tape 1?!!!!!!!7, law = -108, tape 0?1;------7",
        "law = 1, tape 0?1;-------7, law = -110, tape 1;((((((7)))))), law = 2, tape 1;(((((((7, law = -108");
    run("other LINES, other E", "tape ((((((1))))))?((((((2))))));((((((3)))))), law = 0, says 0 0 0 = 2",
        "tape !!!!!!0?2;!!!!!!3, law = 1, says 1 0 0 = 1");
  }

  /** FAULT, and that THE TAPE is empty then, and nothing more has become of it. */
  private static void fault(String text, int place) {
    run("the FAULT of " + text,
        "tape " + text + ", law = " + (-100 - place) + ", count 3 = 0, count 2 = 0, law = -100",
        "tape " + text + ", measure 99 = " + (-100 - place) + ", count 3 = 0, count 1 = 0, measure 99 = -100");
  }

  private static void faults() {
    // The first byte with which no TEXT goes on.
    String[] atOnce = {
      "?1", ";", ")", "+1", "*1", "/1", "%1", "|1", "&1", "<1", "=1", ">1", "b", "A", "~", "\u007f", "\u0080",
    };
    for (String text : atOnce) {
      fault(text, 0);
    }
    String[] behindOne = {"a)", "aa", "a1", "1a", "a(", "a!", "1(", "a b", "a\u00e1", "(1)1", "(1)a", "(1)(1)", "((1)))"};
    int[] places = {1, 1, 1, 1, 1, 1, 1, 1, 1, 3, 3, 3, 5};
    for (int i = 0; i < behindOne.length; i++) {
      fault(behindOne[i], places[i]);
    }
    String[] behindASign = {
      "a+)", "a*;", "a<?", "a|&", "a&|", "a--)", "a+*1", "()", "(;", "!)", "-+1", "a?)", "a;)", "(1;", "(1?",
    };
    int[] signPlaces = {2, 2, 2, 2, 2, 3, 2, 1, 1, 1, 1, 2, 2, 2, 2};
    for (int i = 0; i < behindASign.length; i++) {
      fault(behindASign[i], signPlaces[i]);
    }
    // The length, if it ends too early.
    String[] early = {
      "(", "!", "-", "(1", "((1)", "a+", "a-", "a*", "a/", "a%", "a|", "a&", "a<", "a=", "a>", "a?", "a;", "a?1;",
      "a+(", "(1+", "1234+", "((((((", "!!!!!!",
    };
    for (String text : early) {
      fault(text, text.length());
    }
  }

  private static void measures() {
    run("which AGES between are IN", "tape 1, measure 4041, tape 1, measure 4040, tape 1, measure 0, tape 1",
        "measure 9999, isIn 0 39 = 0, isIn 0 40 = 1, isIn 0 41 = 1, isIn 0 42 = 0, isIn 1 39 = 0, isIn 1 40 = 1",
        "isIn 1 41 = 0, isIn 2 0 = 1, isIn 2 1 = 0, isIn 3 98 = 0, isIn 3 99 = 1");
    run("isIn(): AGE 0 .. 99", "tape 1, measure 99, isIn 0 -1 = BAD, isIn 0 0 = 1, isIn 0 99 = 1, isIn 0 100 = BAD",
        "isIn 0 MIN = BAD, isIn 0 MAX = BAD");
    run("IN (not 0)", "tape a-5, measure 99, isIn 0 4 = 1, isIn 0 5 = 0, isIn 0 6 = 1");
    String people = "list 0 0, list 0 0, say 0 39 50, say 0 40 2, say 0 45 1, say 0 46 50, say 1 39 50, say 1 46 50, ";
    run("a MEASURE of a LIST", people, "tape f=0, measure 4045, measured 0 0 = 30000, tape a=40, measure 4045",
        "measured 0 1 = 40000, tape a=45, measure 4045, measured 0 2 = 20000, tape a=41, measure 4045",
        "measured 0 3 = 0, tape a, measure 4045, measured 0 4 = 10000, tape a=45, measure 3945, measured 0 5 = 1320");
    run("cut", "list 0 0, say 0 1 1, say 0 2 2, tape a=1, measure 2, measured 0 0 = 10000, tape a=2, measure 3",
        "measured 0 1 = 26666, tape a=1, measure 3, measured 0 2 = 13333");
    run("VOID: none between", people, "tape 1, measure 4045, measured 1 0 = VOID, measured 0 0 = 10000, say 1 40 1",
        "measured 1 0 = 10000, say 1 40 0, measured 1 0 = VOID, say 1 45 1, measured 1 0 = 10000");
    run("VOID: none IN", people, "tape a=39, measure 4045, measured 0 0 = VOID, tape a=46, measure 4045",
        "measured 0 1 = VOID, tape 0, measure 99, measured 0 2 = VOID, tape a=46, measure 4046",
        "measured 0 3 = 66037, measured 1 3 = 70000");
    run("by longs", "list 0 0", Script.each("say 0 # 9999", 0, 99), "tape 1, measure 99, measured 0 0 = 10000",
        "tape a, measure 99, measured 0 1 = 10000, tape a=5, measure 99, measured 0 2 = 10000, say 0 6 0",
        "measured 0 2 = 10101");
  }
}
