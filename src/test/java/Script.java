import java.lang.reflect.InvocationTargetException;
import java.lang.reflect.Method;
import java.util.ArrayList;
import java.util.HashMap;
import java.util.List;
import java.util.Map;

/**
 * A run of calls on a new object, told by words: "say 0 99 5 = 0, say 0 100 5 = BAD". One without = is only called;
 * "tape u=0" feeds a text. An answer that is told by a REFUSAL's name is asked for more: behind that call all that can
 * be read of the state has to be what it was ahead of it. No object gets more than its 512 calls.
 */
final class Script {
  static final int MOST_READ = 200;
  private static final int MOST_CALLS = 512;
  private static final Map<String, Long> REFUSALS = Map.of(
      "BAD", -1L, "NOT", -2L, "FULL", -3L, "BIG", -4L, "STATE", -5L, "VOID", -2000000000L,
      "NOTHING", -11L, "KIND", -12L, "PLACE", -13L, "SIZE", -14L);
  // NONE is what element() answers where there is none.
  private static final Map<String, Long> NUMBERS = Map.of(
      "MIN", (long) Integer.MIN_VALUE, "MAX", (long) Integer.MAX_VALUE,
      "LEAST", Long.MIN_VALUE, "GREATEST", Long.MAX_VALUE, "NONE", Long.MIN_VALUE);
  private static final Map<String, Method> METHODS = methods();
  private static final List<List<Call>> READINGS = Readings.all();

  private Script() {}

  /** One call, with the answer that is due, if one was told. */
  static final class Call {
    final String told;
    private final Method method;
    private final Object[] arguments;
    final Long due;
    final boolean refused;

    Call(String told) {
      this.told = told;
      String[] sides = told.split(" = ");
      String[] words = sides[0].trim().split(" +");
      method = METHODS.get(words[0]);
      if (method == null || method.getParameterCount() != words.length - 1) {
        throw new IllegalArgumentException("no such call: " + told);
      }
      Class<?>[] types = method.getParameterTypes();
      arguments = new Object[types.length];
      for (int i = 0; i < types.length; i++) {
        long v = number(words[i + 1]);
        arguments[i] = types[i] == long.class ? (Object) v : (Object) Math.toIntExact(v);
      }
      due = sides.length == 1 ? null : (Long) number(sides[1].trim());
      refused = sides.length == 2 && (REFUSALS.containsKey(sides[1].trim()) || sides[1].trim().equals("NONE"));
    }

    long on(NoughtFive x) {
      try {
        return ((Number) method.invoke(x, arguments)).longValue();
      } catch (InvocationTargetException e) {
        throw new IllegalStateException(told + " threw", e.getCause());
      } catch (IllegalAccessException e) {
        throw new IllegalStateException(e);
      }
    }
  }

  private static Map<String, Method> methods() {
    Map<String, Method> all = new HashMap<>();
    for (Method m : NoughtFive.class.getMethods()) {
      if (m.getDeclaringClass() == NoughtFive.class) {
        all.put(m.getName(), m);
      }
    }
    return all;
  }

  private static long number(String word) {
    if (REFUSALS.containsKey(word)) {
      return REFUSALS.get(word);
    }
    return NUMBERS.containsKey(word) ? NUMBERS.get(word) : Long.parseLong(word);
  }

  /** Runs what is told: each string is one or more lines. */
  static void run(Due due, String title, String... told) {
    List<Call> calls = new ArrayList<>();
    for (String lines : told) {
      for (String line : lines.split(", ")) {
        if (line.startsWith("tape ")) {
          feeds(line.substring(5), calls);
        } else if (!line.isBlank()) {
          calls.add(new Call(line.trim()));
        }
      }
    }
    if (calls.size() > MOST_CALLS - MOST_READ) {
      throw new IllegalArgumentException(title + ": " + calls.size() + " calls are too many");
    }
    NoughtFive x = new NoughtFive();
    long[] state = null;
    for (int i = 0; i < calls.size(); i++) {
      Call call = calls.get(i);
      long got = call.on(x);
      if (call.due != null) {
        due.is(title + ": " + call.told, got, call.due);
      }
      if (call.refused) {
        long[] before = state == null ? read(calls.subList(0, i)) : state;
        state = read(calls.subList(0, i + 1));
        unchanged(due, title + ": behind " + call.told, before, state);
      } else {
        state = null;
      }
    }
  }

  /** The calls that put a text on THE TAPE, four bytes at a time. */
  static void feeds(String text, List<Call> calls) {
    for (int i = 0; i < text.length(); i += 4) {
      int n = Math.min(4, text.length() - i);
      int v = 0;
      for (int j = 0; j < n; j++) {
        v |= text.charAt(i + j) << 8 * j;
      }
      calls.add(new Call("feed " + n + " " + v));
    }
  }

  private static long[] read(List<Call> calls) {
    int size = 0;
    for (List<Call> reading : READINGS) {
      size += reading.size();
    }
    long[] answers = new long[size];
    int at = 0;
    for (List<Call> reading : READINGS) {
      NoughtFive x = new NoughtFive();
      for (Call call : calls) {
        call.on(x);
      }
      for (Call call : reading) {
        answers[at] = call.on(x);
        at++;
      }
    }
    return answers;
  }

  private static void unchanged(Due due, String where, long[] before, long[] after) {
    int at = 0;
    for (List<Call> reading : READINGS) {
      for (Call call : reading) {
        if (after[at] != before[at]) {
          due.is(where + ": " + call.told, after[at], before[at]);
          return;
        }
        at++;
      }
    }
    due.is(where + " nothing changed", 0, 0);
  }

  /** The same lines with each number from .. to for #. */
  static String each(String lines, int from, int to) {
    StringBuilder b = new StringBuilder();
    for (int i = from; i <= to; i++) {
      b.append(lines.replace("#", "" + i)).append(", ");
    }
    return b.toString();
  }

  /** The same lines with each of such numbers for #. */
  static String with(String lines, String... numbers) {
    StringBuilder b = new StringBuilder();
    for (String number : numbers) {
      b.append(lines.replace("#", number)).append(", ");
    }
    return b.toString();
  }

  static String times(int n, String lines) {
    return (lines + ", ").repeat(n);
  }
}
