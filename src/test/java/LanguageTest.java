import java.io.IOException;
import java.nio.file.Files;
import java.nio.file.Path;
import java.util.HashSet;
import java.util.List;
import java.util.Set;
import java.util.regex.Matcher;
import java.util.regex.Pattern;

/** What of ../shared/LANGUAGE.md can be seen in the text of the program. */
final class LanguageTest {
  private static final Path PROGRAM = Path.of("src/main/java/BeatPages.java");

  private static final String[] RULED_OUT = {
    "->", "::", "\\bcatch\\b", "\\bfinally\\b", "\\bassert\\b", "\\bsynchronized\\b", "\\bpackage\\b", "\\bprotected\\b",
    "\\w+Exact\\(", "\\bSystem\\.(?!arraycopy)", "\\bThread\\b", "\\bRandom\\b", "\\bString\\.format\\b", "\\.stream\\(",
    "\\bequals\\s*\\(Object", "\\bhashCode\\b", "\\btoString\\s*\\(\\s*\\)\\s*\\{", "\\bMAX_VALUE\\b", "\\bMIN_VALUE\\b",
    "\\bstatic\\s*\\{", "\\[\\]\\[\\]\\[\\]",
  };

  public static void main(String[] args) throws IOException {
    List<String> lines = Files.readAllLines(PROGRAM);
    String code = withoutComments(lines);
    for (String one : RULED_OUT) {
      Check.due("the program holds " + one, Pattern.compile(one).matcher(code).find(), false);
    }
    imports(lines);
    lengths(lines);
    names(code);
    thrown(code);
    Check.finish("LanguageTest");
  }

  private static String withoutComments(List<String> lines) {
    StringBuilder code = new StringBuilder();
    for (String line : lines) {
      String text = line.strip();
      if (!text.startsWith("//") && !text.startsWith("/*") && !text.startsWith("*")) {
        code.append(line).append('\n');
      }
    }
    return code.toString();
  }

  private static void imports(List<String> lines) {
    Set<String> allowed = Set.of("import java.util.Arrays;", "import java.util.ArrayList;",
        "import java.util.List;", "import java.util.Iterator;", "import java.util.NoSuchElementException;");
    for (String line : lines) {
      if (line.startsWith("import ")) {
        Check.due(line, allowed.contains(line), true);
      }
    }
  }

  /** A method begins with a brace at the depth of its class, and ends with the closing one under it. */
  private static void lengths(List<String> lines) {
    for (int at = 0; at < lines.size(); at++) {
      String line = lines.get(at);
      boolean opens = line.endsWith("{") && (line.contains("(") || line.contains("throws"));
      int depth = line.length() - line.stripLeading().length();
      if (!opens || (depth != 2 && depth != 4 && depth != 6)) {
        continue;
      }
      int end = at + 1;
      while (end < lines.size() && !lines.get(end).equals(" ".repeat(depth) + "}")
          && !lines.get(end).equals(" ".repeat(Math.max(0, depth - 4)) + "}")) {
        end++;
      }
      Check.due("at most sixty lines from line " + (at + 1), end - at <= 60, true);
    }
  }

  private static void names(String code) {
    Set<String> face = new HashSet<>();
    Matcher shown = Pattern.compile("public \\w+ (\\w+)\\(").matcher(code);
    while (shown.find()) {
      Check.due("one public " + shown.group(1), face.add(shown.group(1)), true);
    }
    Check.due("the methods of the face", face.size(), 24);
    Matcher inside = Pattern.compile("\\n +(?:private )?(?:static )?(?:int|boolean|void) (\\w+)\\(").matcher(code);
    while (inside.find()) {
      Check.due("bears a public name: " + inside.group(1), face.contains(inside.group(1)), false);
    }
  }

  private static void thrown(String code) {
    Matcher thrown = Pattern.compile("throw ([^;]*);").matcher(code);
    while (thrown.find()) {
      Check.due("throw " + thrown.group(1),
          thrown.group(1).matches("new (IllegalState|IllegalArgument|IndexOutOfBounds)Exception\\(\"[ -~]*\"\\)"), true);
    }
  }
}
