import java.util.Random;

/** Random runs of calls, each answered by the program and by the model: no call may throw, and all must be alike. */
public final class ModelTest {
  private static final int RUNS = 3000, CALLS = 512;
  private static final String SIGNS = "aufwkzsl0123456789()()!-+*/%<=>&|?;";
  private static final int[] EDGES = {
    Integer.MIN_VALUE, Integer.MAX_VALUE, -1, -2, 0, 1, 2, 5, 9, 10, 11, 49, 50, 51, 59, 60, 61, 99, 100, 101, 102,
    103, 119, 120, 400, 401, 1000, 1001, 1003, 1009, 1010, 1993, 1999, 2000, 9999, 10000,
  };

  private final Random random;
  private final NoughtFive x = new NoughtFive();
  private final Model y = new Model();
  private final Due due;
  private int calls = 0;

  private ModelTest(Due due, long seed) {
    this.due = due;
    random = new Random(seed);
  }

  public static void main(String[] args) {
    Due due = new Due("ModelTest");
    for (int i = 0; i < 30000; i++) {
      texts(due, i);
    }
    int runs = args.length > 0 ? Integer.parseInt(args[0]) : RUNS;
    for (int i = 0; i < runs; i++) {
      new ModelTest(due, i).run();
    }
    due.end();
  }

  /** One random text: its fault, or what it gives. */
  private static void texts(Due due, int seed) {
    Random random = new Random(seed);
    String text = text(random, 120);
    NoughtFive x = new NoughtFive();
    int fault = ModelText.fault(text);
    int got = Due.law(x, text);
    due.is("law() of " + text, got, fault < 0 ? 0 : -100 - fault);
    for (int i = 0; i < 5 && got == 0 && fault < 0; i++) {
      int age = random.nextInt(100);
      int knows = random.nextInt(2);
      int draw = random.nextInt(100);
      int sort = random.nextInt(4);
      int line = random.nextInt(100);
      x.line(line);
      int v = ModelText.value(text, age, knows, draw, sort, line);
      String call = "says() at " + line + " of " + age + " " + knows + " " + draw + " " + sort + " by " + text;
      due.is(call, x.says(0, age, 1000 * knows + 10 * draw + sort), Math.max(0, Math.min(99, v)));
    }
  }

  private static String text(Random random, int most) {
    StringBuilder b = new StringBuilder();
    switch (random.nextInt(8)) {
      case 0:
        for (int i = random.nextInt(20); i > 0; i--) b.append(SIGNS.charAt(random.nextInt(SIGNS.length())));
        break;
      default:
        do {
          part(random, b, random.nextInt(5));
          if (random.nextInt(2) == 0) {
            b.append('?');
            part(random, b, random.nextInt(4));
          }
          b.append(';');
        } while (random.nextInt(3) != 0);
        b.setLength(b.length() - 1);
    }
    if (b.length() > 0 && random.nextInt(4) == 0) {
      int at = random.nextInt(b.length());
      char c = SIGNS.charAt(random.nextInt(SIGNS.length()));
      switch (random.nextInt(5)) {
        case 0: b.deleteCharAt(at); break;
        case 1: b.insert(at, c); break;
        case 2: b.setCharAt(at, c); break;
        case 3: b.setLength(at); break;
        default: b.setCharAt(at, (char) random.nextInt(256));
      }
    }
    return b.length() > most ? b.substring(0, most) : b.toString();
  }

  private static void part(Random random, StringBuilder b, int depth) {
    int what = depth <= 0 ? random.nextInt(2) : random.nextInt(8);
    if (what == 0) {
      b.append(random.nextInt(random.nextBoolean() ? 20 : 10000));
    } else if (what == 1) {
      b.append("aaaufwkzsl".charAt(random.nextInt(10)));
    } else if (what == 2) {
      b.append('(');
      part(random, b, depth - 1);
      b.append(')');
    } else if (what == 3) {
      b.append(random.nextBoolean() ? '!' : '-');
      part(random, b, depth - 1);
    } else {
      part(random, b, depth - 1);
      b.append("+-*/%<=>&|".charAt(random.nextInt(10)));
      part(random, b, depth - 1);
    }
  }

  private void run() {
    int fat = random.nextInt(3);
    for (int i = 0; calls < CALLS; i++) {
      // The dear ones come seldom: the model is slow.
      int call = random.nextInt(44);
      if ((call >= 19 && call <= 21) && random.nextInt(12) != 0) call = 4;
      if (i < 40 && random.nextInt(3) != 0) call = new int[] {1, 3, 7, 8, 22, 34, 38}[random.nextInt(7)];
      try {
        call(call, fat);
      } catch (RuntimeException e) {
        due.is("call " + call + " threw " + e, 0, 1);
        e.printStackTrace(System.out);
        return;
      }
    }
  }

  private int below(int most) {
    return random.nextInt(16) == 0 ? EDGES[random.nextInt(EDGES.length)] : random.nextInt(most);
  }

  private int between() {
    if (random.nextInt(10) == 0) return below(10000);
    int a = random.nextInt(100);
    int b = random.nextInt(100);
    return random.nextInt(4) == 0 ? 99 : 100 * Math.min(a, b) + Math.max(a, b);
  }

  private int list() {
    return below(Math.max(1, y.count(0)));
  }

  private int measure() {
    return below(Math.max(1, y.count(1)));
  }

  private int law() {
    return below(Math.max(1, y.count(2)));
  }

  private int ks() {
    return random.nextInt(10) == 0 ? below(1011) : 10 * random.nextInt(101) + random.nextInt(4);
  }

  /** What calls behind the 512th answer is free. */
  private void same(String call, long got, long want) {
    calls++;
    if (calls <= CALLS) {
      due.is(call, got, want);
    }
  }

  private void feed(String text) {
    for (int i = 0; i < text.length(); ) {
      int n = Math.min(text.length() - i, 1 + random.nextInt(4));
      int v = random.nextInt(2) == 0 || n == 4 ? 0 : -1 << 8 * n;
      for (int j = 0; j < n; j++) v |= text.charAt(i + j) << 8 * j;
      same("feed", x.feed(n, v), y.feed(n, v));
      i += n;
    }
  }

  private void call(int call, int fat) {
    int p = 0, q = 0, r = 0, s = 0, t = 0;
    switch (call) {
      case 0: case 43: p = below(8); same("count " + p, x.count(p), y.count(p)); break;
      case 1: p = below(10000); q = below(1001);
        if (random.nextInt(3) == 0) p = random.nextInt(3) + 1800;
        same("list " + p + " " + q, x.list(p, q), y.list(p, q)); break;
      case 2: p = list(); q = below(2); r = random.nextBoolean() ? below(1001) : below(10000);
        same("mark", x.mark(p, q, r), y.mark(p, q, r)); break;
      case 3: {
        int n = random.nextInt(6);
        for (int i = 0; i <= n; i++) {
          p = list(); q = below(100);
          r = fat == 0 ? below(10000) : fat == 1 ? below(12) : below(100);
          same("say", x.say(p, q, r), y.say(p, q, r));
        }
        break;
      }
      case 4: p = list(); q = below(6); r = below(20) - random.nextInt(2); s = below(61);
        same("sayings " + p + " " + q + " " + r + " " + s, x.sayings(p, q, r, s), y.sayings(p, q, r, s)); break;
      case 5: p = list(); q = below(103); same("of", x.of(p, q), y.of(p, q)); break;
      case 6: p = below(5); q = random.nextInt();
        if (random.nextInt(4) == 0) same("feed", x.feed(p, q), y.feed(p, q)); break;
      case 7: case 8: {
        boolean law = call == 8;
        if (random.nextInt(3) != 0) {
          String text = text(random, law ? 60 : 121);
          feed(random.nextInt(3) == 0 ? new String[] {"f=0", "u=0|u=5", "a>30&a<50", "w=0", "k?a;a/5*5",
              "k?a;u=9?a+1;z<l?a-1;a", "a>l-5&a<l?l;a+s", "z", "z<50?a;a/10*10"}[random.nextInt(9)] : text);
        }
        p = between();
        if (law) same("law", x.law(), y.law());
        else same("measure", x.measure(p), y.measure(p));
        break;
      }
      case 9: p = measure(); q = below(100); same("isIn", x.isIn(p, q), y.isIn(p, q)); break;
      case 10: p = list(); q = measure(); same("measured", x.measured(p, q), y.measured(p, q)); break;
      case 11: p = list(); q = between(); r = below(10); same("share", x.share(p, q, r), y.share(p, q, r)); break;
      case 12: p = list(); q = between(); same("off", x.off(p, q), y.off(p, q)); break;
      case 13: p = list(); q = between(); r = random.nextInt(4) == 0 ? below(2200) : 100 * (1 + random.nextInt(20)) + random.nextInt(21);
        same("counted", x.counted(p, q, r), y.counted(p, q, r)); break;
      case 14: p = list(); q = between(); r = below(2); same("by", x.by(p, q, r), y.by(p, q, r)); break;
      case 15: p = list(); q = measure(); r = random.nextInt(); s = below(51);
        same("chance", x.chance(p, q, r, s), y.chance(p, q, r, s)); break;
      case 16: p = list(); q = measure(); r = below(51); s = below(2);
        same("mended", x.mended(p, q, r, s), y.mended(p, q, r, s)); break;
      case 17: p = list(); q = law(); r = below(402); s = ks(); t = random.nextInt();
        same("land", x.land(p, q, r, s, t), y.land(p, q, r, s, t)); break;
      case 18: p = law(); q = below(100); r = below(2004); same("says", x.says(p, q, r), y.says(p, q, r)); break;
      case 19: p = law(); q = below(100); r = ks(); s = below(2);
        if (random.nextInt(2) == 0) q = Math.max(0, y.says(p, q, random.nextInt(2) * 1000 + 300));
        same("truly", x.truly(p, q, r, s), y.truly(p, q, r, s)); break;
      case 20: p = list(); q = law(); r = ks(); same("fits", x.fits(p, q, r), y.fits(p, q, r)); break;
      case 21: p = list(); q = ks(); r = below(2); same("best", x.best(p, q, r), y.best(p, q, r)); break;
      case 22: p = below(10000); q = below(61);
        if (random.nextBoolean()) p = 100 * (p / 100 % 40) + p / 100 % 40 + q % 40 * random.nextInt(2);
        same("pair", x.pair(p, q), y.pair(p, q)); break;
      case 23: p = below(4); same("goes", x.goes(p), y.goes(p)); break;
      case 24: same("mean", x.mean(), y.mean()); break;
      case 25: p = below(100); same("line", x.line(p), y.line(p)); break;
      case 26: same("turned", x.turned(), y.turned()); break;
      case 27: p = list(); q = below(11); same("side", x.side(p, q), y.side(p, q)); break;
      case 28: p = 10 * list() + list(); q = between(); same("apart", x.apart(p, q), y.apart(p, q)); break;
      case 29: p = 10 * list() + list(); q = between(); r = random.nextInt(); s = below(51);
        same("drawn", x.drawn(p, q, r, s), y.drawn(p, q, r, s)); break;
      case 30: p = measure(); same("years", x.years(p), y.years(p)); break;
      case 31: p = measure(); same("beside", x.beside(p), y.beside(p)); break;
      case 32: for (int i = random.nextInt(12); i >= 0; i--) same("undo", x.undo(), y.undo()); break;
      case 33: for (int i = random.nextInt(9); i >= 0; i--) same("redo", x.redo(), y.redo()); break;
      case 34: p = below(8); same("body", x.body(p), y.body(p)); break;
      case 35: p = below(50); q = below(4); r = random.nextBoolean() ? random.nextInt() : below(100);
        if (random.nextInt(4) != 0) p = random.nextInt(Math.max(1, y.count(6)));
        same("act", x.act(p, q, r), y.act(p, q, r));
        for (int i = -1; i < 25; i++) same("trace", x.trace(i), y.trace(i));
        same("count 7", x.count(7), y.count(7)); break;
      case 36: p = below(25); same("trace", x.trace(p), y.trace(p)); break;
      case 37: p = below(6); q = random.nextInt(8) - 1; same("keep", x.keep(p, q), y.keep(p, q)); break;
      case 38: p = below(6); q = random.nextBoolean() ? 2 : below(5); r = below(61);
        same("row", x.row(p, q, r), y.row(p, q, r));
        for (int i = random.nextInt(25); i > 0; i--) {
          int place = random.nextInt(20);
          int v = random.nextInt(30) == 0 ? random.nextInt() : random.nextInt(100);
          same("put", x.put(p, place, v), y.put(p, place, v));
        }
        break;
      case 39: {
        p = below(6); q = below(30);
        long v = random.nextBoolean() ? random.nextLong() : random.nextInt(200) - 50;
        same("put", x.put(p, q, v), y.put(p, q, v));
        same("element", x.element(p, q), y.element(p, q));
        break;
      }
      case 40: p = below(6); q = below(30); same("element", x.element(p, q), y.element(p, q)); break;
      case 41: p = below(6); r = below(6); q = below(20) - random.nextInt(2); s = below(20); t = below(20) - random.nextInt(2);
        same("shift", x.shift(p, q, r, s, t), y.shift(p, q, r, s, t));
        for (int i = 0; i < 60; i++) same("element", x.element(r, i), y.element(r, i));
        break;
      case 42: p = below(6); q = below(8); same("taken", x.taken(p, q), y.taken(p, q)); break;
      default: break;
    }
    if (random.nextInt(40) == 0) all();
  }

  /** All counts, and all of one list. */
  private void all() {
    int list = random.nextInt(8);
    for (int i = 0; i < 8; i++) same("count " + i, x.count(i), y.count(i));
    for (int i = 0; i < 103; i++) same("of", x.of(list, i), y.of(list, i));
  }
}
