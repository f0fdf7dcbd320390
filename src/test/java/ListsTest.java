/** Promises 1 to 6: a new object, lists, and sayings from rows. */
public final class ListsTest {
  private static final Due due = new Due("ListsTest");

  public static void main(String[] args) {
    aNewObject();
    list();
    mark();
    say();
    sayings();
    of();
    due.end();
  }

  private static void aNewObject() {
    NoughtFive x = new NoughtFive();
    for (int i = 0; i < 8; i++) {
      due.is("count(" + i + ") of a new one", x.count(i), 0);
    }
    due.is("of(0, 0) of a new one", x.of(0, 0), -1);
    due.is("isIn(0, 0) of a new one", x.isIn(0, 0), -1);
    due.is("says(0, 0, 0) of a new one", x.says(0, 0, 0), -1);
    due.is("undo() of a new one", x.undo(), -5);
    due.is("line(0) of a new one", x.line(0), 0);
    for (int i = 0; i < 6; i++) {
      due.is("element(" + i + ", 0) of a new one", x.put(i, 0, 1), -11);
    }
  }

  private static void list() {
    NoughtFive x = new NoughtFive();
    due.is("list(-1, 0)", x.list(-1, 0), -1);
    due.is("list(10000, 0)", x.list(10000, 0), -1);
    due.is("list(0, -1)", x.list(0, -1), -1);
    due.is("list(0, 1001)", x.list(0, 1001), -1);
    due.is("count(0) after refusals", x.count(0), 0);
    for (int i = 0; i < 8; i++) {
      due.is("list " + i, x.list(i == 0 ? 9999 : i, i == 0 ? 1000 : 0), i);
    }
    due.is("a ninth list", x.list(5, 5), -3);
    due.is("a ninth list that is bad", x.list(5, 1001), -1);
    due.is("year of 0", x.of(0, 101), 9999);
    due.is("signed of 0", x.of(0, 102), 1000);
    due.is("year of 7", x.of(7, 101), 7);
    due.is("lists", x.count(0), 8);
  }

  private static void mark() {
    NoughtFive x = new NoughtFive();
    due.is("mark without a list", x.mark(0, 0, 5), -1);
    x.list(1800, 300);
    due.is("year becomes 9999", x.mark(0, 0, 9999), 1800);
    due.is("year becomes 0", x.mark(0, 0, 0), 9999);
    due.is("signed becomes 1000", x.mark(0, 1, 1000), 300);
    due.is("signed stays 1000", x.mark(0, 1, 1000), 1000);
    int[][] wrong = {{-1, 0, 5}, {1, 0, 5}, {0, -1, 5}, {0, 2, 5}, {0, 0, -1}, {0, 0, 10000}, {0, 1, -1}, {0, 1, 1001}};
    for (int[] w : wrong) {
      due.is("mark " + w[0] + " " + w[1] + " " + w[2], x.mark(w[0], w[1], w[2]), -1);
    }
    due.is("year", x.of(0, 101), 0);
    due.is("signed", x.of(0, 102), 1000);
    due.is("changes", x.count(5), 3);
  }

  private static void say() {
    NoughtFive x = new NoughtFive();
    x.list(0, 0);
    x.list(0, 0);
    due.is("say", x.say(0, 0, 9999), 0);
    due.is("say again", x.say(0, 0, 7), 9999);
    due.is("say the last age", x.say(1, 99, 3), 0);
    int[][] wrong = {{-1, 5, 5}, {2, 5, 5}, {0, -1, 5}, {0, 100, 5}, {0, 5, -1}, {0, 5, 10000}};
    for (int[] w : wrong) {
      due.is("say " + w[0] + " " + w[1] + " " + w[2], x.say(w[0], w[1], w[2]), -1);
    }
    due.is("of 0", x.of(0, 0), 7);
    due.is("of the other", x.of(1, 0), 0);
    due.is("all of 0", x.of(0, 100), 7);
    due.is("all of 1", x.of(1, 100), 3);
    due.is("changes", x.count(5), 3);
  }

  private static void sayings() {
    NoughtFive x = new NoughtFive();
    x.list(0, 0);
    x.say(0, 7, 9998);
    due.is("from nothing", x.sayings(0, 3, 0, 5), 0);
    due.is("from nothing, from far", x.sayings(0, 3, 100, 5), 0);
    x.row(0, 2, 5);
    int[] ages = {7, 7, 99, 0, 100};
    for (int i = 0; i < 5; i++) {
      x.put(0, i, ages[i]);
    }
    due.is("two of it", x.sayings(0, 0, 0, 2), 2);
    due.is("a count stays at 9999", x.of(0, 7), 9999);
    due.is("up to what is no age", x.sayings(0, 0, 2, 60), 2);
    due.is("of 99", x.of(0, 99), 1);
    due.is("of 0", x.of(0, 0), 1);
    x.put(0, 4, -1);
    due.is("a number below 0 is no age", x.sayings(0, 0, 4, 1), 0);
    x.put(0, 4, 5);
    due.is("up to the end", x.sayings(0, 0, 3, 60), 2);
    due.is("behind the end", x.sayings(0, 0, 5, 1), 0);
    due.is("far behind the end", x.sayings(0, 0, Integer.MAX_VALUE, 60), 0);
    due.is("ahead of the row", x.sayings(0, 0, -1, 60), 0);
    due.is("of 5", x.of(0, 5), 1);
    due.is("sayings are no changes", x.count(5), 1);
    int[][] wrong = {{-1, 0, 0, 1}, {1, 0, 0, 1}, {0, -1, 0, 1}, {0, 6, 0, 1}, {0, 0, 0, 0}, {0, 0, 0, 61}};
    for (int[] w : wrong) {
      due.is("sayings " + w[0] + " " + w[1] + " " + w[3], x.sayings(w[0], w[1], w[2], w[3]), -1);
    }
    int[] otherSorts = {0, 1, 3, 4};
    for (int sort : otherSorts) {
      x.row(1, sort, 5);
      due.is("from a row of sort " + sort, x.sayings(0, 1, 0, 1), -12);
    }
    x.body(0);
    x.keep(1, 0);
    due.is("from a saying", x.sayings(0, 1, 0, 1), -12);
    due.is("bad ahead of -12", x.sayings(0, 1, 0, 61), -1);
    x.keep(1, -1);
    due.is("from a shelf that holds nothing again", x.sayings(0, 1, 0, 1), 0);
    due.is("all", x.of(0, 100), 9999 + 1 + 2 + 1);
  }

  private static void of() {
    NoughtFive x = new NoughtFive();
    x.list(1234, 567);
    for (int age = 0; age < 100; age++) {
      x.say(0, age, 9999);
    }
    due.is("of an age", x.of(0, 99), 9999);
    due.is("of all", x.of(0, 100), 999900);
    due.is("year", x.of(0, 101), 1234);
    due.is("signed", x.of(0, 102), 567);
    int[][] wrong = {{-1, 0}, {1, 0}, {8, 0}, {0, -1}, {0, 103}, {Integer.MIN_VALUE, 0}, {0, Integer.MAX_VALUE}};
    for (int[] w : wrong) {
      due.is("of " + w[0] + " " + w[1], x.of(w[0], w[1]), -1);
    }
  }
}
