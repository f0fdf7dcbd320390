/** Promises 7 to 11: the tape, texts, measures. */
public final class TextsTest {
  private static final Due due = new Due("TextsTest");
  private static final int VOID = NoughtFive.VOID;

  public static void main(String[] args) {
    feed();
    measure();
    law();
    faults();
    values();
    isIn();
    measured();
    due.end();
  }

  private static void feed() {
    NoughtFive x = new NoughtFive();
    due.is("no bytes", x.feed(0, 97), -1);
    due.is("five bytes", x.feed(5, 97), -1);
    due.is("below 0", x.feed(-1, 97), -1);
    due.is("the lowest first", x.feed(4, '9' | '0' << 8 | '+' << 16 | '8' << 24), 4);
    due.is("90+8", x.law(), 0);
    due.is("says 98", x.says(0, 0, 0), 98);
    due.is("only so many", x.feed(2, '4' | '2' << 8 | '7' << 16), 2);
    due.is("42", x.law(), 1);
    due.is("says 42", x.says(1, 0, 0), 42);
    for (int i = 1; i <= 29; i++) {
      due.is("feed " + i, x.feed(4, 0), 4 * i);
    }
    due.is("117", x.feed(1, 0), 117);
    due.is("121 are too many", x.feed(4, 0), -3);
    due.is("120", x.feed(3, 0), 120);
    due.is("one too many", x.feed(1, 0), -3);
    due.is("bad ahead of full", x.feed(0, 0), -1);
    due.is("120 on the tape", x.count(3), 120);
  }

  private static void measure() {
    NoughtFive x = new NoughtFive();
    Due.feed(x, "a");
    int[] wrong = {-1, 10000, 100, 9998, 2019, Integer.MIN_VALUE};
    for (int between : wrong) {
      due.is("measure(" + between + ")", x.measure(between), -1);
    }
    due.is("the tape stays", x.count(3), 1);
    due.is("measure(9999)", x.measure(9999), 0);
    due.is("the tape is empty", x.count(3), 0);
    due.is("an empty tape", x.measure(99), -100);
    Due.feed(x, "a+");
    due.is("a fault", x.measure(99), -102);
    due.is("the tape is empty after a fault", x.count(3), 0);
    for (int i = 1; i < 6; i++) {
      due.is("measure " + i, Due.measure(x, "a", 0), i);
    }
    Due.feed(x, "a");
    due.is("a seventh", x.measure(0), -3);
    due.is("the tape stays when it is full", x.count(3), 1);
    due.is("bad ahead of full", x.measure(100), -1);
    due.is("measures", x.count(1), 6);
    due.is("it becomes a law", x.law(), 0);
  }

  private static void law() {
    NoughtFive x = new NoughtFive();
    for (int i = 0; i < 6; i++) {
      due.is("law " + i, Due.law(x, "a+" + i), i);
    }
    due.is("the tape is empty", x.count(3), 0);
    Due.feed(x, "a");
    due.is("a seventh", x.law(), -3);
    due.is("the tape stays", x.count(3), 1);
    due.is("laws", x.count(2), 6);
    due.is("it becomes a measure", x.measure(99), 0);
    due.is("says by the last law", x.says(5, 10, 0), 15);
    NoughtFive y = new NoughtFive();
    due.is("an empty tape", y.law(), -100);
    due.is("a fault", Due.law(y, "a;;a"), -102);
    due.is("no laws", y.count(2), 0);
    due.is("no bytes", y.count(3), 0);
  }

  private static void fault(String text, int place) {
    NoughtFive x = new NoughtFive();
    int want = place < 0 ? 0 : -100 - place;
    due.is("law of " + text, Due.law(x, text), want);
    due.is("measure of " + text, Due.measure(x, text, 99), want);
  }

  private static void faults() {
    String[] whole = {
      "a", "u", "f", "w", "k", "z", "s", "l", "0", "1234", "0000", "a;u", "a?u", "a?u;f", "a?u;f?w;k", "1|2|3", "1&2&3",
      "a<1", "a=1", "a>1", "a<1&u>2|f=3", "1+2-3+4", "1*2/3%4", "!a", "-a", "!-!-!-a", "((((((a))))))", "(-(-(-a)))",
      "a-------0", "(a<u)<f", "(a|u)&(f)", "-a<-u", "((((((a))))))+((((((a))))))", "!!!!!!a*!!!!!!a", "(a)?(u);(f)",
    };
    for (String text : whole) {
      fault(text, -1);
    }
    fault("", 0);
    fault("?", 0);
    fault(";", 0);
    fault(")", 0);
    fault("+1", 0);
    fault("A", 0);
    fault(" a", 0);
    fault("b", 0);
    fault("" + (char) 225, 0);
    fault("" + (char) 0, 0);
    fault("aa", 1);
    fault("a1", 1);
    fault("1a", 1);
    fault("a ", 1);
    fault("a)", 1);
    fault("a(", 1);
    fault("a!", 1);
    fault("12345", 4);
    fault("a+12345", 6);
    fault("a?", 2);
    fault("a?!!!!!!u", -1);
    fault("a?!!!!!!!u", 8);
    fault("a?u|f;w|k?z", -1);
    fault("a?;", 2);
    fault("a?u?f", 3);
    fault("a;", 2);
    fault("a;;", 2);
    fault("a<u<f", 3);
    fault("a<u=f", 3);
    fault("a<u+1>f", 5);
    fault("(a<u<f)", 4);
    fault("(a", 2);
    fault("(a;u)", 2);
    fault("(a?u)", 2);
    fault("(a+)", 3);
    fault("()", 1);
    fault("a||u", 2);
    fault("a&", 2);
    fault("a<", 2);
    fault("-", 1);
    fault("!", 1);
    fault("-------a", 6);
    fault("a--------0", 8);
    fault("!!!!!!!a", 6);
    fault("(((((((a)))))))", 6);
    fault("((((((-a", 6);
    fault("((((((1))))))*(((-(!a", 21);
    fault("((((((1))))))*(((-(!(a", 20);
    fault("((((((1))))))*(((-(!-a", 20);
    fault("(-a)-(-(-(-a)))+-(-(-(-a", 22);
  }

  private static int value(String text, int age) {
    NoughtFive x = new NoughtFive();
    due.is("law of " + text, Due.law(x, text), 0);
    x.line(40);
    return x.says(0, age, 1000 + 770 + 3);
  }

  private static void values() {
    due.is("last figure", value("u", 47), 7);
    due.is("rest by 5", value("f", 47), 2);
    due.is("rest by 12", value("w", 47), 11);
    due.is("knows", value("k", 47), 1);
    due.is("draw", value("z", 47), 77);
    due.is("sort", value("s", 47), 3);
    due.is("line", value("l", 47), 40);
    due.is("* ahead of +", value("1+2*3", 0), 7);
    due.is("from the left", value("20-5-3", 0), 12);
    due.is("/ from the left", value("90/4/2", 0), 11);
    due.is("+ ahead of <", value("1+1<3", 0), 1);
    due.is("< ahead of &", value("1<2&2<3", 0), 1);
    due.is("& ahead of |", value("1|0&0", 0), 1);
    due.is("- ahead of *", value("-2*-3", 0), 6);
    due.is("- toward 0", value("50+-7/2", 0), 47);
    due.is("% toward 0", value("50+-7%4", 0), 47);
    due.is("/ by 0", value("7/0", 0), 0);
    due.is("% by 0", value("7%0", 0), 0);
    due.is("! of what is not 0", value("!5", 0), 0);
    due.is("! of 0", value("!0", 0), 1);
    due.is("! of one O", value("!0+5", 0), 6);
    due.is("| gives 1", value("5|6", 0), 1);
    due.is("& gives 1", value("5&6", 0), 1);
    due.is("& of 0", value("5&0", 0), 0);
    due.is("= gives 1", value("5=5", 0), 1);
    due.is("> gives 0", value("5>5", 0), 0);
    due.is("ints wrap", value("9999*9999*9999<0", 0), 9999 * 9999 * 9999 < 0 ? 1 : 0);
    due.is("ints wrap by +", value("(8192*8192*32-1+8192*8192*32)*2+5", 0), 3);
    due.is("the least by -1", value("(8192*8192*32)/-1<0", 0), 1);
    due.is("the least % -1", value("(8192*8192*32)%-1", 0), 0);
    due.is("less than 0", value("0-5", 0), 0);
    due.is("more than 99", value("9999", 0), 99);
    due.is("the first line counts", value("a;5", 47), 47);
    due.is("a line whose first E is 0", value("a<5?1;2", 47), 2);
    due.is("a line whose first E is not 0", value("a>5?1;2", 47), 1);
    due.is("a first E below 0", value("-1?7;2", 47), 7);
    due.is("none counts", value("a<5?9;a<6?8", 47), 0);
    due.is("the second of three", value("a<5?9;a>6?8;7", 47), 8);
    due.is("what counts may be 0", value("1?0;7", 47), 0);
    due.is("a whole E behind ?", value("1?0|5;7", 47), 1);
    due.is("a whole E ahead of ?", value("0|5?8;7", 47), 8);
    due.is("> gives 1", value("(5>4)+1", 0), 2);
    due.is("< gives 1", value("(4<5)+1", 0), 2);
    due.is("120 bytes", value("-1" + "+1".repeat(59), 0), 58);
    due.is("40 lines", value("0?1;".repeat(29) + "0?1", 0), 0);
    due.is("the 30th line", value("0?1;".repeat(29) + "9", 0), 9);
  }

  private static void isIn() {
    NoughtFive x = new NoughtFive();
    Due.measure(x, "u=0|u=5", 2362);
    x.line(40);
    Due.measure(x, "k|z|s|l", 99);
    Due.measure(x, "-a", 99);
    Due.measure(x, "1", 2362);
    Due.measure(x, "1", 9999);
    due.is("the first age", x.isIn(3, 23), 1);
    due.is("the last age", x.isIn(3, 62), 1);
    due.is("ahead of the first age", x.isIn(3, 22), 0);
    due.is("behind the last age", x.isIn(3, 63), 0);
    due.is("the only age", x.isIn(4, 99), 1);
    due.is("25", x.isIn(0, 25), 1);
    due.is("60", x.isIn(0, 60), 1);
    due.is("24", x.isIn(0, 24), 0);
    due.is("20 is not between", x.isIn(0, 20), 0);
    due.is("65 is not between", x.isIn(0, 65), 0);
    due.is("a name not said of measures is 0", x.isIn(1, 41), 0);
    due.is("what is below 0 is in", x.isIn(2, 1), 1);
    due.is("0 is not in", x.isIn(2, 0), 0);
    int[][] wrong = {{-1, 5}, {5, 5}, {0, -1}, {0, 100}};
    for (int[] w : wrong) {
      due.is("isIn " + w[0] + " " + w[1], x.isIn(w[0], w[1]), -1);
    }
  }

  private static void measured() {
    NoughtFive x = new NoughtFive();
    x.list(0, 0);
    x.list(0, 0);
    x.say(0, 20, 3);
    x.say(0, 21, 1);
    x.say(0, 30, 4);
    x.say(0, 35, 2);
    x.say(0, 36, 100);
    x.say(0, 19, 100);
    x.say(1, 36, 100);
    Due.measure(x, "u=0|u=5", 2035);
    Due.measure(x, "a=99", 2035);
    Due.measure(x, "1", 2035);
    Due.measure(x, "a=0", 99);
    due.is("9 of 10, 4 of 16", x.measured(0, 0), 36000);
    due.is("none in", x.measured(0, 1), VOID);
    due.is("all in", x.measured(0, 2), 10000);
    due.is("none between", x.measured(1, 0), VOID);
    due.is("none that say so", x.measured(1, 3), 0);
    int[][] wrong = {{-1, 0}, {2, 0}, {0, -1}, {0, 4}};
    for (int[] w : wrong) {
      due.is("measured " + w[0] + " " + w[1], x.measured(w[0], w[1]), VOID);
    }
    for (int age = 0; age < 100; age++) {
      x.say(1, age, age == 0 ? 9999 : 9998);
    }
    due.is("by longs, cut", x.measured(1, 3), 10000L * 9999 * 100 / (9999 + 99 * 9998));
  }
}
