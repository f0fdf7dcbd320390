import java.lang.reflect.Constructor;
import java.lang.reflect.Field;
import java.lang.reflect.Method;
import java.lang.reflect.Modifier;
import java.util.Arrays;
import java.util.TreeSet;

/** The public face is the document's, and nothing else can be seen from outside. */
public final class FaceTest {
  private static final String[] FACE = {
    "int list(int,int)", "int mark(int,int,int)", "int say(int,int,int)", "int sayings(int,int,int,int)",
    "int of(int,int)", "int feed(int,int)", "int measure(int)", "int law()", "int isIn(int,int)",
    "int measured(int,int)", "int share(int,int,int)", "int off(int,int)", "int counted(int,int,int)",
    "int by(int,int,int)", "int chance(int,int,int,int)", "int mended(int,int,int,int)",
    "int land(int,int,int,int,int)", "int says(int,int,int)", "int truly(int,int,int,int)",
    "int fits(int,int,int)", "int best(int,int,int)", "int pair(int,int)", "int goes(int)", "int mean()",
    "int line(int)", "int turned()", "int side(int,int)", "int apart(int,int)", "int drawn(int,int,int,int)",
    "int years(int)", "int beside(int)", "int undo()", "int redo()", "int body(int)", "int act(int,int,int)",
    "int trace(int)", "int keep(int,int)", "int row(int,int,int)", "int put(int,int,long)",
    "long element(int,int)", "int shift(int,int,int,int,int)", "int taken(int,int)", "int count(int)",
  };

  public static void main(String[] args) throws Exception {
    Due due = new Due("FaceTest");
    TreeSet<String> want = new TreeSet<>(Arrays.asList(FACE));
    TreeSet<String> got = new TreeSet<>();
    TreeSet<String> names = new TreeSet<>();
    for (Method m : NoughtFive.class.getDeclaredMethods()) {
      if (!Modifier.isPrivate(m.getModifiers())) {
        String types = Arrays.toString(Arrays.stream(m.getParameterTypes()).map(Class::getName).toArray());
        String plain = types.substring(1, types.length() - 1).replace(" ", "");
        got.add(m.getReturnType().getName() + " " + m.getName() + "(" + plain + ")");
        names.add(m.getName());
        due.is("public " + m.getName(), Modifier.isPublic(m.getModifiers()) ? 1 : 0, 1);
      }
    }
    due.is("the methods " + got, got.equals(want) ? 1 : 0, 1);
    hiddenNames(due, NoughtFive.class, names);
    for (Class<?> c : NoughtFive.class.getDeclaredClasses()) {
      due.is("static " + c, Modifier.isStatic(c.getModifiers()) ? 1 : 0, 1);
      hiddenNames(due, c, names);
    }
    fields(due);
    Constructor<?>[] made = NoughtFive.class.getDeclaredConstructors();
    due.is("constructors", made.length, 1);
    due.is("its parameters", made[0].getParameterCount(), 0);
    due.is("final", Modifier.isFinal(NoughtFive.class.getModifiers()) ? 1 : 0, 1);
    due.end();
  }

  private static void hiddenNames(Due due, Class<?> c, TreeSet<String> names) {
    for (Method m : c.getDeclaredMethods()) {
      boolean hidden = c != NoughtFive.class || Modifier.isPrivate(m.getModifiers());
      due.is("hidden " + m, hidden && names.contains(m.getName()) ? 1 : 0, 0);
    }
  }

  private static void fields(Due due) throws Exception {
    String[] constants = {"BAD", "NOT", "FULL", "BIG", "STATE", "VOID"};
    int[] values = {-1, -2, -3, -4, -5, -2000000000};
    for (int i = 0; i < constants.length; i++) {
      Field f = NoughtFive.class.getField(constants[i]);
      due.is(constants[i], f.getInt(null), values[i]);
      due.is("final " + constants[i], Modifier.isFinal(f.getModifiers()) ? 1 : 0, 1);
    }
    int seen = 0;
    for (Field f : NoughtFive.class.getDeclaredFields()) {
      seen += Modifier.isPrivate(f.getModifiers()) ? 0 : 1;
    }
    due.is("fields that can be seen", seen, constants.length);
  }
}
