/** Of several answers the one that the promise names first: calls of which more than one refusal holds. */
public final class RefusalsTest {
  private static final Due due = new Due("RefusalsTest");
  private static final int BAD = -1, NOT = -2, FULL = -3, BIG = -4, STATE = -5, VOID = NoughtFive.VOID;

  public static void main(String[] args) {
    fullOnes();
    nobody();
    noLaws();
    tooMany();
    shelves();
    due.end();
  }

  private static void fullOnes() {
    NoughtFive x = new NoughtFive();
    for (int i = 0; i < 60; i++) {
      x.list(0, 0);
      x.pair(0, 0);
      x.body(0);
    }
    for (int i = 0; i < 6; i++) {
      Due.measure(x, "a", 99);
      Due.law(x, "a");
    }
    due.is("list: BAD, FULL", x.list(0, 1001), BAD);
    due.is("list: FULL", x.list(0, 1000), FULL);
    due.is("pair: BAD, FULL", x.pair(0, 61), BAD);
    due.is("pair: FULL", x.pair(0, 60), FULL);
    due.is("body: BAD, FULL", x.body(8), BAD);
    due.is("body: FULL", x.body(7), FULL);
    Due.feed(x, "a+");
    due.is("measure: BAD, FULL, and a fault", x.measure(100), BAD);
    due.is("measure: FULL, and a fault", x.measure(99), FULL);
    due.is("law: FULL, and a fault", x.law(), FULL);
    due.is("the tape stays", x.count(3), 2);
    for (int i = 0; i < 118; i++) {
      x.feed(1, 'a');
    }
    due.is("feed: BAD, FULL", x.feed(5, 0), BAD);
    due.is("feed: FULL", x.feed(4, 0), FULL);
    NoughtFive y = new NoughtFive();
    Due.feed(y, "a+");
    due.is("measure: BAD, and a fault", y.measure(100), BAD);
    due.is("the tape stays", y.count(3), 2);
  }

  /** LISTS 0 and 1 without anybody, MEASURE 0 of all AGES, LAW 0 by which all say 0. */
  private static void nobody() {
    NoughtFive x = new NoughtFive();
    x.list(0, 0);
    x.list(0, 0);
    Due.measure(x, "1", 99);
    Due.law(x, "0");
    due.is("share: BAD; NOT", x.share(0, 99, 10), BAD);
    due.is("share: NOT", x.share(0, 99, 9), NOT);
    due.is("off: BAD; NOT", x.off(0, 100), BAD);
    due.is("off: NOT", x.off(0, 99), NOT);
    due.is("by: BAD; NOT", x.by(0, 99, 2), BAD);
    due.is("by: NOT", x.by(0, 99, 1), NOT);
    due.is("chance: BAD; NOT", x.chance(0, 0, 0, 0), BAD);
    due.is("chance: NOT", x.chance(0, 0, 0, 1), NOT);
    due.is("truly: BAD; NOT", x.truly(0, 5, 0, 2), BAD);
    due.is("truly: NOT", x.truly(0, 5, 0, 1), NOT);
    due.is("side: BAD; NOT", x.side(0, 11), BAD);
    due.is("side: NOT", x.side(0, 10), NOT);
    due.is("apart: BAD; NOT", x.apart(0, 99), BAD);
    due.is("apart: NOT", x.apart(1, 99), NOT);
    due.is("drawn: BAD; NOT", x.drawn(1, 99, 0, 51), BAD);
    due.is("drawn: NOT", x.drawn(1, 99, 0, 50), NOT);
    due.is("years: VOID; NOT", x.years(1), VOID);
    due.is("years: NOT", x.years(0), NOT);
  }

  private static void noLaws() {
    NoughtFive x = new NoughtFive();
    due.is("best: BAD; STATE", x.best(0, 0, 0), BAD);
    x.list(0, 0);
    due.is("best: STATE", x.best(0, 0, 0), STATE);
  }

  /** MEASURE 0 has no AGE in; only LIST 0 has people, one more than can be drawn. */
  private static void tooMany() {
    NoughtFive x = new NoughtFive();
    x.list(0, 0);
    x.list(0, 0);
    Due.measure(x, "0", 99);
    x.say(0, 99, 2001);
    due.is("chance: BAD, BIG; NOT", x.chance(0, 0, 0, 51), BAD);
    due.is("chance: BIG; NOT", x.chance(0, 0, 0, 50), BIG);
    due.is("drawn: BAD, BIG; NOT", x.drawn(1, 99, 0, 0), BAD);
    due.is("drawn: BIG; NOT", x.drawn(1, 99, 0, 1), BIG);
    due.is("drawn the other way: BIG; NOT", x.drawn(10, 99, 0, 1), BIG);
    x.say(0, 99, 2000);
    due.is("chance: NOT", x.chance(0, 0, 0, 50), NOT);
    due.is("drawn: NOT", x.drawn(1, 99, 0, 1), NOT);
  }

  /** SHELF 0 holds a SAYING, 1 a ROW of ints, 2 a ROW of longs, 3 nothing. */
  private static void shelves() {
    NoughtFive x = new NoughtFive();
    x.list(0, 0);
    x.body(0);
    x.keep(0, 0);
    x.row(1, 2, 2);
    x.row(2, 3, 2);
    due.is("sayings: BAD, -12", x.sayings(0, 0, 0, 0), BAD);
    due.is("sayings: -12", x.sayings(0, 0, 0, 1), -12);
    due.is("sayings: -12, and no such place", x.sayings(0, 2, 2, 1), -12);
    due.is("row: BAD; -14", x.row(3, 5, -1), BAD);
    due.is("row: -14", x.row(3, 4, -1), -14);
    due.is("put: -11, -13", x.put(3, -1, 0), -11);
    due.is("put: -12, -13", x.put(0, -1, 0), -12);
    due.is("put: -13", x.put(1, 2, 0), -13);
    due.is("shift: BAD, -11", x.shift(3, 0, 6, 0, 1), BAD);
    due.is("shift: -11, -12", x.shift(0, 0, 3, 0, 1), -11);
    due.is("shift: -11, -12, the other way", x.shift(3, 0, 0, 0, 1), -11);
    due.is("shift: -11, -13", x.shift(1, 3, 3, 0, 1), -11);
    due.is("shift: -12, -13", x.shift(1, 3, 2, 0, 1), -12);
    due.is("shift: -13", x.shift(1, 1, 1, 0, 2), -13);
    due.is("taken: BAD, -11", x.taken(3, 8), BAD);
    due.is("taken: BAD, -12", x.taken(1, -1), BAD);
    due.is("taken: -11", x.taken(3, 7), -11);
  }
}
