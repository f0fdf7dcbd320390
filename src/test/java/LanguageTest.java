import java.io.DataInputStream;
import java.io.IOException;
import java.lang.reflect.Field;
import java.lang.reflect.Method;
import java.lang.reflect.Modifier;
import java.nio.charset.StandardCharsets;
import java.nio.file.Files;
import java.nio.file.Path;
import java.util.ArrayList;
import java.util.List;
import java.util.Set;
import java.util.regex.Matcher;
import java.util.regex.Pattern;

/**
 * What of ../shared/LANGUAGE.md can be seen in the words of the source, or in the class that is made of it. Run at the
 * project's root.
 */
public final class LanguageTest {
  private static final String[] FORBIDDEN = {
    "\\bthrow", "\\btry\\b", "\\bcatch\\b", "\\bfinally\\b", "\\bsynchronized\\b", "\\bassert\\b", "->", "::",
    "\\bpackage\\b", "\\bimport (?!java\\.util\\.Arrays;)", "\\bdouble\\b", "\\bfloat\\b", "\\bObject\\b", "\\bThread",
    "\\bRandom", "System\\.(?!arraycopy)", "\\bequals\\(", "\\bhashCode\\b", "\\btoString\\b", "Exact\\(", "\\bnull \\+",
    "\\bstatic \\{", "\\bwhile \\(true\\)", "\\bfor \\(;;\\)", "[^\\x00-\\x7f]",
  };

  /** Rule 4, of what takes no texts or lists: Math and Integer are looked at by their types. */
  private static final Set<String> LIBRARY = Set.of("java/lang/Object.<init>", "java/lang/String.indexOf",
      "java/lang/String.length", "java/lang/String.charAt", "java/lang/System.arraycopy", "java/util/Arrays.fill",
      "java/util/Arrays.copyOf", "java/util/Arrays.copyOfRange");
  private static final Set<Class<?>> STATIC_TYPES = Set.of(int.class, long.class, boolean.class, char.class,
      String.class, int[].class, long[].class, char[].class, byte[].class);
  private static final int MOST_PARAMETERS = 7, MOST_FIELDS = 20;

  public static void main(String[] args) throws Exception {
    Due due = new Due("LanguageTest");
    String source = Files.readString(Path.of("src/main/java/NoughtFive.java"), StandardCharsets.ISO_8859_1);
    String code = source.replaceAll("(?s)/\\*.*?\\*/", "").replaceAll("//[^\n]*", "");
    for (String words : FORBIDDEN) {
      Matcher m = Pattern.compile(words).matcher(code);
      due.is("found " + words, m.find() ? 1 : 0, 0);
    }
    due.is("texts joined by +", Pattern.compile("\"\\s*\\+|\\+\\s*\"").matcher(code).find() ? 1 : 0, 0);
    int classes = 0;
    Matcher m = Pattern.compile("\\b(class|interface|enum|record) [A-Z]").matcher(code);
    while (m.find()) {
      classes++;
    }
    due.is("at most twelve classes of " + classes, classes <= 12 ? 1 : 0, 1);
    methodsAreShort(due, code);
    sizesAndStatics(due, NoughtFive.class);
    library(due, NoughtFive.class);
    for (Class<?> inside : NoughtFive.class.getDeclaredClasses()) {
      due.is("hidden " + inside, inside.getModifiers() & (Modifier.PUBLIC | Modifier.PROTECTED), 0);
      due.is("classes inside " + inside, inside.getDeclaredClasses().length, 0);
      sizesAndStatics(due, inside);
      library(due, inside);
    }
    due.end();
  }

  /** Rules 5 and 11: few parameters, few fields; static fields are constants. */
  private static void sizesAndStatics(Due due, Class<?> c) {
    for (Method m : c.getDeclaredMethods()) {
      due.is("at most seven parameters: " + m, m.getParameterCount() <= MOST_PARAMETERS ? 1 : 0, 1);
    }
    int fields = 0;
    for (Field f : c.getDeclaredFields()) {
      boolean constant = Modifier.isStatic(f.getModifiers());
      fields += constant ? 0 : 1;
      boolean good = Modifier.isFinal(f.getModifiers()) && STATIC_TYPES.contains(f.getType());
      due.is("static " + f, constant && !good ? 1 : 0, 0);
    }
    due.is("at most twenty fields in " + c + ": " + fields, fields <= MOST_FIELDS ? 1 : 0, 1);
  }

  /** Rules 2 and 4: no lambda or joined text, no call outside the class but those of the library that is listed. */
  private static void library(Due due, Class<?> c) throws IOException {
    String file = c.getName().substring(c.getName().lastIndexOf('.') + 1) + ".class";
    try (DataInputStream in = new DataInputStream(NoughtFive.class.getResourceAsStream(file))) {
      for (String called : calls(in)) {
        String name = called.substring(0, called.indexOf('('));
        boolean ofNumbers = called.matches("java/lang/(Math|Integer|Long)\\.\\w+(?<!Exact)\\([IJ]*\\)[IJZ]");
        boolean own = name.startsWith("NoughtFive");
        due.is("called: " + called, own || ofNumbers || LIBRARY.contains(name) ? 1 : 0, 1);
      }
    }
  }

  /** The calls that a class file names: CLASS.NAME(TYPES)TYPE; one that is made up at run time has the class "?". */
  private static List<String> calls(DataInputStream in) throws IOException {
    in.skipNBytes(8);
    int size = in.readUnsignedShort();
    Object[] constants = new Object[size];
    int[] tags = new int[size];
    for (int i = 1; i < size; i++) {
      tags[i] = in.readUnsignedByte();
      switch (tags[i]) {
        case 1: constants[i] = in.readUTF(); break;
        case 3: case 4: in.skipNBytes(4); break;
        case 5: case 6: in.skipNBytes(8); i++; break;
        case 15: in.skipNBytes(3); break;
        case 7: case 8: case 16: case 19: case 20: constants[i] = new int[] {in.readUnsignedShort()}; break;
        default: constants[i] = new int[] {in.readUnsignedShort(), in.readUnsignedShort()};
      }
    }
    List<String> calls = new ArrayList<>();
    for (int i = 1; i < size; i++) {
      if (tags[i] == 10 || tags[i] == 11 || tags[i] == 18) {
        int[] call = (int[]) constants[i];
        int[] nameAndType = (int[]) constants[call[1]];
        String owner = tags[i] == 18 ? "?" : (String) constants[((int[]) constants[call[0]])[0]];
        calls.add(owner + "." + constants[nameAndType[0]] + constants[nameAndType[1]]);
      }
    }
    return calls;
  }

  private static void methodsAreShort(Due due, String code) {
    int from = -1;
    String end = "";
    String[] lines = code.split("\n", -1);
    for (int i = 0; i < lines.length; i++) {
      Matcher m = Pattern.compile("^( +)[^=]*\\) \\{$").matcher(lines[i]);
      if (from < 0 && m.find() && !lines[i].trim().startsWith("if") && !lines[i].trim().startsWith("for")) {
        from = i;
        end = m.group(1) + "}";
      } else if (from >= 0 && lines[i].equals(end)) {
        due.is("lines of " + lines[from].trim(), i - from <= 60 ? 1 : 0, 1);
        from = -1;
      }
    }
  }
}
