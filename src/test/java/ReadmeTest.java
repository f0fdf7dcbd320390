import java.nio.file.Files;
import java.nio.file.Path;
import java.util.ArrayList;
import java.util.HashMap;
import java.util.List;
import java.util.Map;
import java.util.regex.Matcher;
import java.util.regex.Pattern;
import javax.tools.ToolProvider;

/** What README.md says that the class answers, and what numbers its constants have. Run at the project's root. */
public final class ReadmeTest {
  private static final Due due = new Due("ReadmeTest");
  private static final Pattern CALL = Pattern.compile("(x\\.\\w+\\(.*\\)); *// (-?\\d+|[A-Z]+)\\b.*");
  private static final Pattern CONSTANT = Pattern.compile("\\| `([A-Z]+)` \\| (-\\d+) \\|.*");
  private static final int CONSTANTS = 6;

  public static void main(String[] args) throws Exception {
    List<String> lines = Files.readAllLines(Path.of("README.md"));
    Map<String, Integer> constants = constants(lines);
    example(lines, constants);
    due.end();
  }

  private static Map<String, Integer> constants(List<String> lines) throws Exception {
    Map<String, Integer> all = new HashMap<>();
    for (String line : lines) {
      Matcher m = CONSTANT.matcher(line);
      if (m.matches()) {
        int told = Integer.parseInt(m.group(2));
        due.is(m.group(1), NoughtFive.class.getField(m.group(1)).getInt(null), told);
        all.put(m.group(1), told);
      }
    }
    due.is("constants that are told", all.size(), CONSTANTS);
    return all;
  }

  /** Compiles the example as it is printed, but for what each call answers: that is printed behind its place. */
  private static void example(List<String> lines, Map<String, Integer> constants) throws Exception {
    List<String> calls = new ArrayList<>();
    List<Long> told = new ArrayList<>();
    StringBuilder code = new StringBuilder("public final class Example {\n  public static long[] answers() {\n");
    StringBuilder answers = new StringBuilder();
    for (String line : lines.subList(lines.indexOf("```java") + 1, lines.lastIndexOf("```"))) {
      if (line.equals("```")) {
        break;
      }
      Matcher m = CALL.matcher(line);
      if (m.matches()) {
        code.append("long a" + calls.size() + " = " + m.group(1) + ";\n");
        answers.append(calls.isEmpty() ? "" : ", ").append("a" + calls.size());
        calls.add(m.group(1));
        String answer = m.group(2);
        told.add(constants.containsKey(answer) ? constants.get(answer) : Long.parseLong(answer));
      } else {
        due.is("a call without an answer: " + line, line.startsWith("x.") ? 1 : 0, 0);
        code.append(line + "\n");
      }
    }
    code.append("    return new long[] {" + answers + "};\n  }\n}\n");
    long[] got = run(code.toString());
    for (int i = 0; i < got.length; i++) {
      due.is(calls.get(i), got[i], told.get(i));
    }
    due.is("calls that are told", got.length > 0 ? 1 : 0, 1);
  }

  private static long[] run(String code) throws Exception {
    Path folder = Files.createTempDirectory("readme");
    Path file = folder.resolve("Example.java");
    Path made = folder.resolve("Example.class");
    try {
      Files.writeString(file, code);
      String own = System.getProperty("java.class.path");
      int failed = ToolProvider.getSystemJavaCompiler()
          .run(null, null, null, "-cp", own, "-d", folder.toString(), file.toString());
      due.is("the example compiles: not", failed, 0);
      byte[] bytes = failed == 0 ? Files.readAllBytes(made) : new byte[0];
      return failed == 0 ? (long[]) new Maker().make(bytes).getMethod("answers").invoke(null) : new long[0];
    } finally {
      Files.deleteIfExists(file);
      Files.deleteIfExists(made);
      Files.deleteIfExists(folder);
    }
  }

  private static final class Maker extends ClassLoader {
    Class<?> make(byte[] bytes) {
      return defineClass("Example", bytes, 0, bytes.length);
    }
  }
}
