/** What the tests share: it counts the answers that are not due, and feeds texts. */
final class Due {
  private final String test;
  private int wrong = 0;
  private int seen = 0;

  Due(String test) {
    this.test = test;
  }

  void is(String call, long got, long want) {
    seen++;
    if (got != want) {
      wrong++;
      System.out.println(test + ": " + call + " answered " + got + ", due is " + want);
    }
  }

  /** Ends the test: with exit code 1, if an answer was wrong. */
  void end() {
    System.out.println(test + ": " + seen + " answers, " + wrong + " wrong");
    if (wrong != 0) {
      System.exit(1);
    }
  }

  static void feed(NoughtFive x, String text) {
    for (int i = 0; i < text.length(); i++) {
      x.feed(1, text.charAt(i));
    }
  }

  static int measure(NoughtFive x, String text, int between) {
    feed(x, text);
    return x.measure(between);
  }

  static int law(NoughtFive x, String text) {
    feed(x, text);
    return x.law();
  }
}
