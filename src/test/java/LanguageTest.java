import java.nio.charset.StandardCharsets;
import java.nio.file.Files;
import java.nio.file.Path;
import java.util.regex.Matcher;
import java.util.regex.Pattern;

/** What of ../shared/LANGUAGE.md can be seen in the words of the source alone. Run at the project's root. */
public final class LanguageTest {
  private static final String[] FORBIDDEN = {
    "\\bthrow", "\\btry\\b", "\\bcatch\\b", "\\bfinally\\b", "\\bsynchronized\\b", "\\bassert\\b", "->", "::",
    "\\bpackage\\b", "\\bimport (?!java\\.util\\.Arrays;)", "\\bdouble\\b", "\\bfloat\\b", "\\bObject\\b", "\\bThread",
    "\\bRandom", "System\\.(?!arraycopy)", "\\bequals\\(", "\\bhashCode\\b", "\\btoString\\b", "Exact\\(", "\\bnull \\+",
    "\\bstatic \\{", "\\bwhile \\(true\\)", "\\bfor \\(;;\\)", "[^\\x00-\\x7f]",
  };

  public static void main(String[] args) throws Exception {
    Due due = new Due("LanguageTest");
    String source = Files.readString(Path.of("src/main/java/NoughtFive.java"), StandardCharsets.ISO_8859_1);
    String code = source.replaceAll("(?s)/\\*.*?\\*/", "").replaceAll("//[^\n]*", "");
    for (String words : FORBIDDEN) {
      Matcher m = Pattern.compile(words).matcher(code);
      due.is("found " + words, m.find() ? 1 : 0, 0);
    }
    due.is("texts joined by +", Pattern.compile("\"\\s*\\+|\\+\\s*\"").matcher(code).find() ? 1 : 0, 0);
    int classes = 0;
    Matcher m = Pattern.compile("\\b(class|interface|enum|record) [A-Z]").matcher(code);
    while (m.find()) {
      classes++;
    }
    due.is("at most twelve classes of " + classes, classes <= 12 ? 1 : 0, 1);
    methodsAreShort(due, code);
    due.end();
  }

  private static void methodsAreShort(Due due, String code) {
    int from = -1;
    String end = "";
    String[] lines = code.split("\n", -1);
    for (int i = 0; i < lines.length; i++) {
      Matcher m = Pattern.compile("^( +)[^=]*\\) \\{$").matcher(lines[i]);
      if (from < 0 && m.find() && !lines[i].trim().startsWith("if") && !lines[i].trim().startsWith("for")) {
        from = i;
        end = m.group(1) + "}";
      } else if (from >= 0 && lines[i].equals(end)) {
        due.is("lines of " + lines[from].trim(), i - from <= 60 ? 1 : 0, 1);
        from = -1;
      }
    }
  }
}
