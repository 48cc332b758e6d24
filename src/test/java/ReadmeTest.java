import java.io.IOException;
import java.lang.reflect.InvocationTargetException;
import java.lang.reflect.Method;
import java.lang.reflect.Modifier;
import java.nio.file.Files;
import java.nio.file.Path;
import java.util.Arrays;
import java.util.Set;
import java.util.TreeSet;
import java.util.regex.Matcher;
import java.util.regex.Pattern;

/** README.md tells each call of the face, and each answer that its example tells is the one that comes. */
public final class ReadmeTest {
  private static final Due DUE = new Due("ReadmeTest");
  private static final Pattern MADE = Pattern.compile("^MatchFinders x = new MatchFinders\\(([^)]*)\\);.*");
  private static final Pattern CALL = Pattern.compile("^x\\.(\\w+)\\(([^)]*)\\);\\s*// (-?\\d+|throws \\w+)(:.*)?$");

  public static void main(String[] args) throws IOException, IllegalAccessException {
    String readme = Files.readString(Path.of(System.getProperty("readme", "README.md")));
    Set<String> called = example(readme);
    for (Method method : MatchFinders.class.getDeclaredMethods()) {
      if (Modifier.isPublic(method.getModifiers())) {
        String name = method.getName();
        DUE.holds("the example calls " + name, called.contains(name));
        DUE.holds("the table tells " + name, readme.contains("| `" + name + "("));
      }
    }
    DUE.holds("how to run the tests is told", readme.contains("\n.ci/run\n"));
    DUE.end();
  }

  /** Makes the calls of the example; answers their names. */
  private static Set<String> example(String readme) throws IllegalAccessException {
    Set<String> called = new TreeSet<>();
    MatchFinders x = null;
    int from = readme.indexOf("```java\n");
    String block = from < 0 ? "" : readme.substring(from + 8, readme.indexOf("```", from + 8));
    for (String line : block.split("\n")) {
      Matcher made = MADE.matcher(line);
      Matcher call = CALL.matcher(line);
      if (made.matches()) {
        int[] numbers = numbers(made.group(1));
        x = new MatchFinders(numbers[0], numbers[1]);
      } else if (x != null && call.matches()) {
        called.add(call.group(1));
        DUE.same(line, answer(x, call.group(1), numbers(call.group(2))), call.group(3));
      } else {
        DUE.holds("'" + line + "' is a call with its answer", line.isBlank());
      }
    }
    return called;
  }

  private static int[] numbers(String list) {
    String[] parts = list.isBlank() ? new String[0] : list.split(",");
    return Arrays.stream(parts).mapToInt(part -> Integer.parseInt(part.trim())).toArray();
  }

  private static String answer(MatchFinders x, String name, int[] numbers) throws IllegalAccessException {
    for (Method method : MatchFinders.class.getDeclaredMethods()) {
      if (method.getName().equals(name) && method.getParameterCount() == numbers.length) {
        try {
          return String.valueOf(method.invoke(x, Arrays.stream(numbers).boxed().toArray()));
        } catch (InvocationTargetException e) {
          return "throws " + e.getCause().getClass().getSimpleName();
        }
      }
    }
    return "no such call";
  }
}
