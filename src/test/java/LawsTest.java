/** Promises 18 to 22: laws and lands. */
public final class LawsTest {
  private static final Due due = new Due("LawsTest");

  public static void main(String[] args) {
    land();
    landOfEach();
    says();
    truly();
    fits();
    best();
    due.end();
  }

  private static void land() {
    NoughtFive x = new NoughtFive();
    x.list(0, 0);
    Due.law(x, "5");
    Due.law(x, "s*10+k");
    x.say(0, 5, 9990);
    due.is("400 of them", x.land(0, 0, 400, 0, 1), 400);
    due.is("a count stays at 9999", x.of(0, 5), 9999);
    due.is("lands are no changes", x.count(5), 1);
    due.is("sort 3, all know", x.land(0, 1, 100, 1003, 1), 100);
    due.is("they say 31", x.of(0, 31), 100);
    due.is("sort 2, none knows", x.land(0, 1, 1, 2, 1), 1);
    due.is("he says 20", x.of(0, 20), 1);
    int[][] wrong = {{1, 0, 5, 0}, {-1, 0, 5, 0}, {0, 2, 5, 0}, {0, -1, 5, 0}, {0, 0, 0, 0}, {0, 0, 401, 0},
        {0, 0, 5, -1}, {0, 0, 5, 4}, {0, 0, 5, 1010}, {0, 0, 5, 509}};
    for (int[] w : wrong) {
      due.is("land " + w[0] + " " + w[1] + " " + w[2] + " " + w[3], x.land(w[0], w[1], w[2], w[3], 1), -1);
    }
    due.is("all", x.of(0, 100), 9999 + 100 + 1);
  }

  /** Three draws for each: true AGE, KNOWS, draw. */
  private static void landOfEach() {
    String[] laws = {"a", "k*50", "z"};
    for (int law = 0; law < 3; law++) {
      NoughtFive x = new NoughtFive();
      x.list(0, 0);
      Due.law(x, laws[law]);
      due.is("land by " + laws[law], x.land(0, 0, 300, 370, 77), 300);
      int[] want = new int[100];
      int z = 77;
      for (int i = 0; i < 300; i++) {
        int[] three = new int[3];
        for (int j = 0; j < 3; j++) {
          z = z * 1103515245 + 12345;
          three[j] = (z >>> 8) % 100;
        }
        want[law == 1 ? (three[1] < 37 ? 50 : 0) : three[law]]++;
      }
      for (int age = 0; age < 100; age++) {
        due.is("of " + age + " by " + laws[law], x.of(0, age), want[age]);
      }
    }
  }

  private static void says() {
    NoughtFive x = new NoughtFive();
    Due.law(x, "k?a;z<50?a/10*10;l+s");
    x.line(90);
    due.is("who knows", x.says(0, 47, 1000), 47);
    due.is("who does not, low draw", x.says(0, 47, 490), 40);
    due.is("who does not, high draw", x.says(0, 47, 503), 93);
    due.is("highest draw", x.says(0, 47, 992), 92);
    due.is("all highest", x.says(0, 99, 1993), 99);
    int[][] wrong = {{1, 5, 0}, {-1, 5, 0}, {0, -1, 0}, {0, 100, 0}, {0, 5, -1}, {0, 5, 4}, {0, 5, 1994}, {0, 5, 2000},
        {0, 5, 999}};
    for (int[] w : wrong) {
      due.is("says " + w[0] + " " + w[1] + " " + w[2], x.says(w[0], w[1], w[2]), -1);
    }
  }

  private static void truly() {
    NoughtFive x = new NoughtFive();
    Due.law(x, "k?a;a/10*10");
    Due.law(x, "z<25?a;50");
    Due.law(x, "a/50*50");
    Due.law(x, "a=l?7;9");
    // 40 is said by 40 (all) and by 41 .. 49 that do not know: 100 of 100 and 9 times 60.
    due.is("40, of whom 40 hundredths know", x.truly(0, 40, 400, 0), 1000 * 100 / (100 + 9 * 60));
    due.is("likeliest", x.truly(0, 40, 400, 1), 40);
    due.is("43 is true", x.truly(0, 43, 400, 0), 1000);
    due.is("43 is not said if none knows", x.truly(0, 43, 0, 0), -2);
    due.is("nor likely", x.truly(0, 43, 0, 1), -2);
    // 50: by 50 with all draws, by the other 99 with 75 of 100.
    due.is("50 by draws", x.truly(1, 50, 500, 0), 1000 * 100 / (100 + 99 * 75));
    due.is("likeliest by draws", x.truly(1, 50, 500, 1), 50);
    due.is("of like ones the least", x.truly(2, 50, 1003, 1), 50);
    due.is("of like ones the least", x.truly(2, 0, 0, 1), 0);
    due.is("a fiftieth", x.truly(2, 50, 0, 0), 20);
    x.line(33);
    due.is("he is not 7", x.truly(3, 7, 0, 0), 0);
    due.is("likeliest by the line", x.truly(3, 7, 0, 1), 33);
    int[][] wrong = {{4, 5, 0, 0}, {-1, 5, 0, 0}, {0, -1, 0, 0}, {0, 100, 0, 0}, {0, 5, -1, 0}, {0, 5, 4, 0},
        {0, 5, 1010, 0}, {0, 5, 0, 2}, {0, 5, 0, -1}};
    for (int[] w : wrong) {
      due.is("truly " + w[0] + " " + w[1] + " " + w[2] + " " + w[3], x.truly(w[0], w[1], w[2], w[3]), -1);
    }
    due.is("by the sort of people", Due.law(x, "s"), 4);
    due.is("sort 2 says 2", x.truly(4, 2, 2, 0), 10);
    due.is("sort 2 does not say 3", x.truly(4, 3, 2, 0), -2);
  }

  private static void fits() {
    NoughtFive x = new NoughtFive();
    x.list(0, 0);
    x.list(0, 0);
    Due.law(x, "a");
    Due.law(x, "k?a;0");
    for (int age = 0; age < 100; age++) {
      x.say(0, age, 3);
    }
    due.is("it fits", x.fits(0, 0, 0), 0);
    // 30 hundredths know: 0 is said by 70 and 0.3, each other by 0.3 hundredths, of 300.
    due.is("it does not fit", x.fits(0, 1, 300), 211 - 3 + 99 * 21 / 10);
    due.is("an empty list fits", x.fits(1, 1, 300), 0);
    x.say(1, 50, 1);
    due.is("one, cut", x.fits(1, 0, 0), 1);
    x.say(1, 50, 9999);
    due.is("many", x.fits(1, 0, 0), 9999L * 198 / 100);
    int[][] wrong = {{2, 0, 0}, {-1, 0, 0}, {0, 2, 0}, {0, -1, 0}, {0, 0, -1}, {0, 0, 4}, {0, 0, 1010}};
    for (int[] w : wrong) {
      due.is("fits " + w[0] + " " + w[1] + " " + w[2], x.fits(w[0], w[1], w[2]), -1);
    }
  }

  private static void best() {
    NoughtFive x = new NoughtFive();
    x.list(0, 0);
    x.say(0, 50, 10);
    due.is("no laws", x.best(0, 0, 0), -5);
    due.is("no laws", x.best(0, 0, 1), -5);
    due.is("bad ahead of no laws", x.best(0, 4, 0), -1);
    Due.law(x, "7");
    Due.law(x, "k?50;8");
    Due.law(x, "k?50;9");
    due.is("of like ones the first", x.best(0, 400, 0), 1);
    due.is("6 are off, and 6 are not there", x.best(0, 400, 1), 12);
    due.is("if none knows, the first", x.best(0, 0, 0), 0);
    due.is("all are off", x.best(0, 0, 1), 20);
    Due.law(x, "50");
    due.is("the last law", x.best(0, 0, 0), 3);
    due.is("it fits", x.best(0, 0, 1), 0);
    int[][] wrong = {{1, 0, 0}, {-1, 0, 0}, {0, -1, 0}, {0, 1010, 0}, {0, 0, 2}, {0, 0, -1}};
    for (int[] w : wrong) {
      due.is("best " + w[0] + " " + w[1] + " " + w[2], x.best(w[0], w[1], w[2]), -1);
    }
  }
}
