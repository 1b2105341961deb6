import java.io.IOException;
import java.lang.reflect.Method;
import java.nio.file.Files;
import java.nio.file.Path;
import java.util.regex.Matcher;
import java.util.regex.Pattern;

/** The example of README.md: each call answers what is told behind it. */
public final class ReadmeTest {
  private static final Pattern CALL = Pattern.compile("fleet\\.(\\w+)\\((.*)\\);\\s+// (-?\\w+).*");

  public static void main(String[] args) throws IOException, ReflectiveOperationException {
    FleetController fleet = new FleetController();
    int calls = 0;
    for (String line : Files.readAllLines(Path.of("README.md"))) {
      if (line.startsWith("fleet.")) {
        Matcher call = CALL.matcher(line);
        Check.due("a call with its answer: " + line, call.matches() ? 1 : 0, 1);
        Check.due(line, answer(fleet, call.group(1), call.group(2)), number(call.group(3)));
        calls++;
      }
    }
    Check.due("is there an example?", calls > 0 ? 1 : 0, 1);
    Check.end();
  }

  private static int answer(FleetController fleet, String name, String told)
      throws ReflectiveOperationException {
    String[] words = told.isEmpty() ? new String[0] : told.split(", ");
    Method method = methodOf(name);
    Object[] given = new Object[words.length];
    for (int i = 0; i < words.length; i++) {
      long value = number(words[i]);
      given[i] = method.getParameterTypes()[i] == long.class ? (Object) value : (Object) (int) value;
    }
    return (int) method.invoke(fleet, given);
  }

  private static Method methodOf(String name) {
    for (Method method : FleetController.class.getDeclaredMethods()) {
      if (method.getName().equals(name)) {
        return method;
      }
    }
    throw new IllegalArgumentException("no call " + name);
  }

  private static long number(String word) throws ReflectiveOperationException {
    return Character.isLetter(word.charAt(0))
        ? FleetController.class.getField(word).getInt(null)
        : Long.decode(word.replace("L", ""));
  }
}
