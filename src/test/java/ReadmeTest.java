import java.io.IOException;
import java.lang.reflect.InvocationTargetException;
import java.lang.reflect.Method;
import java.nio.file.Files;
import java.nio.file.Path;
import java.util.Set;
import java.util.TreeSet;
import java.util.regex.Matcher;
import java.util.regex.Pattern;

/** The calls of README.md, one behind the other on one house, answer what stands behind them. */
public final class ReadmeTest {
  private static final Pattern LINE = Pattern.compile("^house\\.(\\w+)\\(([^)]*)\\);\\s+// (.*)$", Pattern.MULTILINE);

  public static void main(String[] args) throws IOException, IllegalAccessException {
    Moonwheels house = new Moonwheels();
    Set<String> called = new TreeSet<>();
    Matcher m = LINE.matcher(Files.readString(Path.of("README.md")));
    while (m.find()) {
      called.add(m.group(1));
      Check.is("README.md: " + m.group(), answer(house, m.group(1), m.group(2)), m.group(3));
    }
    for (Method method : Moonwheels.class.getDeclaredMethods()) {
      boolean isPublic = java.lang.reflect.Modifier.isPublic(method.getModifiers());
      // A checksum tells a reader nothing.
      if (isPublic && !method.getName().equals("digest")) {
        Check.is("README.md shows " + method.getName(), called.contains(method.getName()), true);
      }
    }
    Check.end("ReadmeTest");
  }

  private static String answer(Moonwheels house, String name, String row) throws IllegalAccessException {
    String[] words = row.isEmpty() ? new String[0] : row.split(", ");
    Object[] values = new Object[words.length];
    Class<?>[] types = new Class<?>[words.length];
    for (int i = 0; i < words.length; i++) {
      boolean isFlag = words[i].equals("true") || words[i].equals("false");
      values[i] = isFlag ? (Object) Boolean.valueOf(words[i]) : (Object) Integer.valueOf(words[i]);
      types[i] = isFlag ? boolean.class : int.class;
    }
    try {
      Object answer = Moonwheels.class.getMethod(name, types).invoke(house, values);
      return answer instanceof String ? "\"" + answer + "\"" : "" + answer;
    } catch (InvocationTargetException e) {
      return e.getCause().getClass().getSimpleName();
    } catch (NoSuchMethodException e) {
      return "no such call";
    }
  }
}
