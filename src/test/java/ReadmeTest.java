import java.io.IOException;
import java.lang.reflect.Method;
import java.lang.reflect.Modifier;
import java.nio.file.Files;
import java.nio.file.Path;
import java.util.TreeSet;
import java.util.regex.Matcher;
import java.util.regex.Pattern;

/** Runs what README.md shows: each line of its examples answers what stands behind it, and every call is shown. */
public final class ReadmeTest {
  private static final Pattern CALL = Pattern.compile("x\\.(\\w+)\\(([^)]*)\\); *// (-?\\d+)(:.*)?");
  private static final Pattern FED = Pattern.compile("for \\(char c : \"([^\"]*)\"\\.toCharArray\\(\\)\\) x\\.feed\\(c\\);");
  private static final TreeSet<String> shown = new TreeSet<>();
  private static InTheOldOne x;

  public static void main(String[] args) throws IOException, ReflectiveOperationException {
    boolean example = false;
    for (String line : Files.readAllLines(Path.of("README.md"))) {
      if (line.startsWith("```")) {
        example = line.equals("```java");
        x = null;
      } else if (example) {
        show(line);
      }
    }
    for (Method m : InTheOldOne.class.getDeclaredMethods()) {
      if (Modifier.isPublic(m.getModifiers())) Due.due(m.getName() + " is shown", shown.contains(m.getName()) ? 1 : 0, 1);
    }
    Due.end();
  }

  private static void show(String line) throws ReflectiveOperationException {
    Matcher call = CALL.matcher(line);
    Matcher fed = FED.matcher(line);
    if (line.equals("InTheOldOne x = new InTheOldOne();")) {
      x = new InTheOldOne();
    } else if (fed.matches()) {
      Due.feed(x, fed.group(1));
      shown.add("feed");
    } else if (call.matches()) {
      Due.due(line, answer(call.group(1), call.group(2)), Long.parseLong(call.group(3)));
      shown.add(call.group(1));
    } else {
      Due.due("a line that can be run: " + line, 0, 1);
    }
  }

  private static long answer(String name, String given) throws ReflectiveOperationException {
    String[] numbers = given.isEmpty() ? new String[0] : given.split(", ");
    Class<?>[] types = new Class<?>[numbers.length];
    Object[] values = new Object[numbers.length];
    for (int i = 0; i < numbers.length; i++) {
      types[i] = int.class;
      values[i] = Integer.parseInt(numbers[i]);
    }
    return ((Number) InTheOldOne.class.getMethod(name, types).invoke(x, values)).longValue();
  }
}
