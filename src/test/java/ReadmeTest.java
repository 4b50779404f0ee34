import java.io.IOException;
import java.lang.reflect.Method;
import java.nio.file.Files;
import java.nio.file.Path;
import java.util.regex.Matcher;
import java.util.regex.Pattern;

/** Each call that README.md shows answers what stands behind it there. Runs from the project's directory. */
public final class ReadmeTest {
  private static final Due due = new Due("ReadmeTest");
  private static final Pattern CALL = Pattern.compile("wire\\.(\\w+)\\(([^)]*)\\);\\s+// (-?\\d+).*");

  private static Object valueOf(Class<?> type, String told) {
    if (type == boolean.class) {
      return Boolean.valueOf(told);
    }
    long v = Long.decode(told);
    if (type == long.class) {
      return v;
    }
    return (int) v;
  }

  private static Object answerOf(DesertWire wire, String name, String[] told) throws ReflectiveOperationException {
    for (Method m : DesertWire.class.getMethods()) {
      Class<?>[] types = m.getParameterTypes();
      if (m.getName().equals(name) && types.length == told.length) {
        Object[] values = new Object[told.length];
        for (int i = 0; i < told.length; i++) {
          values[i] = valueOf(types[i], told[i]);
        }
        return m.invoke(wire, values);
      }
    }
    return null;
  }

  public static void main(String[] args) throws IOException, ReflectiveOperationException {
    DesertWire wire = new DesertWire();
    int shown = 0;
    for (String line : Files.readAllLines(Path.of("README.md"))) {
      if (!line.startsWith("wire.")) {
        continue;
      }
      shown++;
      Matcher m = CALL.matcher(line);
      due.is("a call and its answer: " + line, m.matches() ? 1 : 0, 1);
      if (m.matches()) {
        String[] told = m.group(2).isBlank() ? new String[0] : m.group(2).trim().split("\\s*,\\s*");
        Object answer = answerOf(wire, m.group(1), told);
        due.is("a method of the class: " + line, answer == null ? 0 : 1, 1);
        due.is(line, answer == null ? 0 : (Integer) answer, Integer.parseInt(m.group(3)));
      }
    }
    due.is("calls are shown", shown > 20 ? 1 : 0, 1);
    due.end();
  }
}
