import java.io.IOException;
import java.lang.reflect.InvocationTargetException;
import java.lang.reflect.Method;
import java.nio.file.Files;
import java.nio.file.Path;
import java.util.List;
import java.util.Set;
import java.util.TreeSet;
import java.util.regex.Matcher;
import java.util.regex.Pattern;
import java.util.stream.Stream;

/** README.md's example: each of its calls is made, and must answer what stands behind it; and its list of tests. */
final class ReadmeTest {
  private static final Path README = Path.of("README.md");
  private static final Path TESTS = Path.of("src/test/java");
  private static final String MADE = "BeatPages machine = new BeatPages();";
  private static final Pattern CALL = Pattern.compile("machine\\.(\\w+)\\(([^)]*)\\); +// ([-\\w]+)(: .*)?");

  private final BeatPages machine = new BeatPages();
  private final Set<String> called = new TreeSet<>();

  public static void main(String[] args) throws IOException, IllegalAccessException {
    List<String> lines = Files.readAllLines(README);
    new ReadmeTest().example(lines);
    listOfTests(lines);
    Check.finish("ReadmeTest");
  }

  private void example(List<String> lines) throws IllegalAccessException {
    int first = lines.indexOf("```java") + 1;
    Check.due("README.md has an example that makes an object", first > 0 && lines.get(first).equals(MADE), true);
    int at = first + 1;
    for (; at < lines.size() && !lines.get(at).equals("```"); at++) {
      if (!lines.get(at).isEmpty()) {
        line(lines.get(at));
      }
    }
    Check.due("the example ends", at < lines.size(), true);
    for (Method method : BeatPages.class.getMethods()) {
      if (method.getDeclaringClass() == BeatPages.class) {
        Check.due("the example shows " + method.getName(), called.contains(method.getName()), true);
      }
    }
  }

  private void line(String line) throws IllegalAccessException {
    Matcher call = CALL.matcher(line);
    boolean isCall = call.matches();
    Check.due("is a call with its answer: " + line, isCall, true);
    if (isCall) {
      called.add(call.group(1));
      String[] arguments = call.group(2).isEmpty() ? new String[0] : call.group(2).split(", ");
      String got = answer(call.group(1), arguments);
      Check.due(line + " answered " + got, got.equals(call.group(3)), true);
    }
  }

  private String answer(String name, String[] arguments) throws IllegalAccessException {
    for (Method method : BeatPages.class.getMethods()) {
      if (method.getName().equals(name) && method.getParameterCount() == arguments.length) {
        try {
          return String.valueOf(method.invoke(machine, values(method.getParameterTypes(), arguments)));
        } catch (InvocationTargetException e) {
          return e.getCause().getClass().getSimpleName();
        }
      }
    }
    return "no such method";
  }

  private static Object[] values(Class<?>[] types, String[] arguments) {
    Object[] values = new Object[arguments.length];
    for (int i = 0; i < values.length; i++) {
      if (types[i] == boolean.class) {
        values[i] = Boolean.valueOf(arguments[i]);
      } else {
        values[i] = Integer.valueOf(arguments[i]);
      }
    }
    return values;
  }

  /** Each test stands in the list, and each one in the list is there. */
  private static void listOfTests(List<String> lines) throws IOException {
    Set<String> told = new TreeSet<>();
    for (String line : lines) {
      Matcher test = Pattern.compile("\\b\\w+Test\\b").matcher(line.startsWith("| ") ? line.split("\\|")[1] : "");
      while (test.find()) {
        told.add(test.group());
      }
    }
    Set<String> there = new TreeSet<>();
    try (Stream<Path> files = Files.list(TESTS)) {
      files.map(file -> file.getFileName().toString()).filter(name -> name.endsWith("Test.java"))
          .forEach(name -> there.add(name.substring(0, name.length() - ".java".length())));
    }
    Check.due("README.md lists " + told + ", there are " + there, told.equals(there), true);
  }
}
