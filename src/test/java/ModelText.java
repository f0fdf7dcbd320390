import java.util.ArrayDeque;
import java.util.Deque;

/** TEXTS for the model: faults by a machine of states, values by splitting texts at their loosest signs. */
final class ModelText {
  private ModelText() {}

  /** The FAULT, or -1. */
  static int fault(String text) {
    // '(' ! - that are open; behind each ( whether a comparison was made there.
    Deque<Character> open = new ArrayDeque<>();
    Deque<Boolean> compared = new ArrayDeque<>();
    compared.push(false);
    boolean asked = false;
    boolean wanted = true; // an O is to come
    int digits = 0;
    for (int i = 0; i < text.length(); i++) {
      char c = text.charAt(i);
      boolean digit = c >= '0' && c <= '9';
      if (wanted) {
        if (digit || "aufwkzsl".indexOf(c) >= 0) {
          wanted = false;
          digits = digit ? 1 : 0;
          closeSigns(open);
        } else if ((c == '(' || c == '!' || c == '-') && open.size() < 6) {
          open.push(c);
          if (c == '(') compared.push(false);
        } else {
          return i;
        }
        continue;
      }
      if (digit) {
        if (digits == 0 || digits == 4) return i;
        digits++;
        continue;
      }
      digits = 0;
      boolean top = compared.size() == 1;
      if (c == ')') {
        if (top) return i;
        open.pop();
        compared.pop();
        closeSigns(open);
        continue;
      }
      wanted = true;
      if ("+-*/%".indexOf(c) >= 0) continue;
      if ("<=>".indexOf(c) >= 0 && !compared.peek()) {
        compared.pop();
        compared.push(true);
      } else if ("|&".indexOf(c) >= 0 || c == ';' && top || c == '?' && top && !asked) {
        compared.pop();
        compared.push(false);
        asked = c == '?' || asked && c != ';';
      } else {
        return i;
      }
    }
    return wanted || compared.size() > 1 ? text.length() : -1;
  }

  private static void closeSigns(Deque<Character> open) {
    while (!open.isEmpty() && open.peek() != '(') open.pop();
  }

  static int value(String text, int a, int k, int z, int s, int l) {
    int[] names = {a, a % 10, a % 5, a % 12, k, z, s, l};
    for (String line : text.split(";")) {
      int ask = line.indexOf('?');
      if (ask < 0) return part(line, names);
      if (part(line.substring(0, ask), names) != 0) return part(line.substring(ask + 1), names);
    }
    return 0;
  }

  private static int part(String e, int[] names) {
    for (String signs : new String[] {"|", "&", "<=>", "+-", "*/%"}) {
      int at = lastOf(e, signs);
      if (at > 0) {
        int left = part(e.substring(0, at), names);
        int right = part(e.substring(at + 1), names);
        return join(e.charAt(at), left, right);
      }
    }
    char c = e.charAt(0);
    if (c == '(') return part(e.substring(1, e.length() - 1), names);
    if (c == '!') return part(e.substring(1), names) == 0 ? 1 : 0;
    if (c == '-') return -part(e.substring(1), names);
    if (c >= '0' && c <= '9') return Integer.parseInt(e);
    return names["aufwkzsl".indexOf(c)];
  }

  /** The last of such signs that joins two parts, outside of all ( ). */
  private static int lastOf(String e, String signs) {
    int depth = 0;
    for (int i = e.length() - 1; i > 0; i--) {
      char c = e.charAt(i);
      depth += c == ')' ? 1 : c == '(' ? -1 : 0;
      char before = e.charAt(i - 1);
      boolean joins = before == ')' || Character.isLetterOrDigit(before);
      if (depth == 0 && joins && signs.indexOf(c) >= 0) return i;
    }
    return -1;
  }

  private static int join(char sign, int x, int y) {
    switch (sign) {
      case '|': return (x != 0) | (y != 0) ? 1 : 0;
      case '&': return (x != 0) & (y != 0) ? 1 : 0;
      case '<': return x < y ? 1 : 0;
      case '=': return x == y ? 1 : 0;
      case '>': return x > y ? 1 : 0;
      case '+': return (int) ((long) x + y);
      case '-': return (int) ((long) x - y);
      case '*': return (int) ((long) x * y);
      case '/': return y == 0 ? 0 : (int) ((long) x / y);
      default: return y == 0 ? 0 : (int) ((long) x % y);
    }
  }
}
