import java.util.ArrayList;
import java.util.List;

/**
 * The calls by which a test reads all that can be told of an object's state. Each list of calls is for an object of its
 * own: the later ones change what they read.
 */
final class Readings {
  private Readings() {}

  static List<List<Script.Call>> all() {
    List<List<String>> told = new ArrayList<>();
    told.add(counts());
    for (int i = 0; i < 8; i++) {
      told.add(list(i));
    }
    for (int i = 0; i < 6; i++) {
      told.add(text(i));
      told.add(shelf(i));
    }
    told.add(lines());
    told.add(tape(false));
    told.add(tape(true));
    told.add(sorts());
    told.add(bodies());
    for (int n : new int[] {1, 2, 3, 20, 39, 40, 41}) {
      told.add(walk("undo", n));
    }
    for (int n : new int[] {1, 2, 41}) {
      told.add(walk("redo", n));
    }
    List<List<Script.Call>> readings = new ArrayList<>();
    for (List<String> some : told) {
      List<Script.Call> calls = new ArrayList<>();
      for (String line : some) {
        calls.add(new Script.Call(line));
      }
      if (calls.size() > Script.MOST_READ) {
        throw new IllegalStateException(calls.size() + " calls are too many to read with");
      }
      readings.add(calls);
    }
    return readings;
  }

  private static List<String> counts() {
    List<String> calls = new ArrayList<>();
    for (int i = 0; i < 8; i++) {
      calls.add("count " + i);
    }
    for (int i = 0; i < 24; i++) {
      calls.add("trace " + i);
    }
    for (int i = 0; i < 4; i++) {
      calls.add("goes " + i);
    }
    calls.add("mean");
    calls.add("turned");
    return calls;
  }

  private static List<String> list(int list) {
    List<String> calls = new ArrayList<>();
    for (int what = 0; what <= 102; what++) {
      calls.add("of " + list + " " + what);
    }
    return calls;
  }

  /** A MEASURE and a LAW. */
  private static List<String> text(int text) {
    List<String> calls = new ArrayList<>();
    for (int age = 0; age < 100; age++) {
      calls.add("isIn " + text + " " + age);
    }
    for (int age : new int[] {0, 9, 47, 99}) {
      for (int kz : new int[] {0, 993, 1000, 1453}) {
        calls.add("says " + text + " " + age + " " + kz);
      }
    }
    return calls;
  }

  private static List<String> shelf(int shelf) {
    List<String> calls = new ArrayList<>();
    for (int k = 0; k < 8; k++) {
      calls.add("taken " + shelf + " " + k);
    }
    for (int i = 0; i < 60; i++) {
      calls.add("element " + shelf + " " + i);
    }
    return calls;
  }

  /** LINE, and what the PAIRS say at each other one. */
  private static List<String> lines() {
    List<String> calls = new ArrayList<>();
    for (int line = 0; line < 100; line++) {
      calls.add("line " + line);
      calls.add("turned");
    }
    return calls;
  }

  /** What stands on THE TAPE, as it is or with one figure more. */
  private static List<String> tape(boolean more) {
    List<String> calls = new ArrayList<>();
    if (more) {
      calls.add("feed 1 49");
    }
    calls.add("law");
    calls.add("measure 99");
    for (int text = 0; text < 6; text++) {
      for (int age = 40; age < 50; age++) {
        calls.add("says " + text + " " + age + " 1453");
        calls.add("isIn " + text + " " + age);
      }
    }
    return calls;
  }

  /** The sort of each ROW, by what it keeps of a long; then what comes of it as SAYINGS. */
  private static List<String> sorts() {
    List<String> calls = new ArrayList<>();
    for (int shelf = 5; shelf >= 0; shelf--) {
      calls.add("put " + shelf + " 0 1311768467463790320");
      calls.add("element " + shelf + " 0");
      calls.add("sayings 0 " + shelf + " 1 60");
      calls.add("of 0 100");
    }
    return calls;
  }

  private static List<String> bodies() {
    List<String> calls = new ArrayList<>();
    for (int body = 0; body <= 50; body++) {
      calls.add("act " + body + " 3 7");
      calls.add("count 7");
    }
    calls.add("body 7");
    return calls;
  }

  /** Goes n changes back, or on, and reads the LISTS there. */
  private static List<String> walk(String way, int n) {
    List<String> calls = new ArrayList<>();
    for (int i = 0; i < n; i++) {
      calls.add(way);
    }
    calls.add("count 5");
    for (int list = 0; list < 8; list++) {
      for (int what : new int[] {0, 1, 5, 40, 98, 99, 100, 101, 102}) {
        calls.add("of " + list + " " + what);
      }
    }
    return calls;
  }
}
