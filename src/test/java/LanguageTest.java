import java.io.IOException;
import java.io.InputStream;
import java.lang.reflect.Field;
import java.lang.reflect.Method;
import java.lang.reflect.Modifier;
import java.nio.file.Files;
import java.nio.file.Path;
import java.util.ArrayList;
import java.util.List;
import java.util.Map;
import java.util.Set;
import java.util.TreeMap;
import java.util.TreeSet;
import java.util.regex.Pattern;

/** What of LANGUAGE.md can be seen in the class files and in the source; the rules' numbers stand with each. */
public final class LanguageTest {
  private static final Path SOURCE = Path.of("src/main/java/Moonwheels.java");
  private static final Set<String> LIBRARY = Set.of("String.length", "String.charAt", "String.isEmpty", "String.equals",
      "String.substring", "String.toCharArray", "StringBuilder.<init>", "StringBuilder.append", "StringBuilder.charAt",
      "StringBuilder.setCharAt", "StringBuilder.setLength", "StringBuilder.deleteCharAt", "StringBuilder.reverse",
      "StringBuilder.length", "StringBuilder.toString", "ArrayList.<init>", "ArrayList.add", "ArrayList.get",
      "ArrayList.set", "ArrayList.remove", "ArrayList.size", "ArrayList.isEmpty", "ArrayList.clear", "Math.min",
      "Math.max", "Math.abs", "Math.floorDiv", "Math.floorMod", "Object.<init>", "System.arraycopy", "Arrays.fill",
      "Arrays.copyOf", "Arrays.copyOfRange");
  private static final Set<String> THROWN = Set.of("IllegalStateException", "IllegalArgumentException",
      "IndexOutOfBoundsException", "ArithmeticException", "UnsupportedOperationException", "NoSuchElementException",
      "RuntimeException");
  private static final Set<String> APPENDED = Set.of("(C)", "(I)", "(Ljava/lang/String;)");
  private static final Set<Class<?>> CONSTANTS = Set.of(int.class, long.class, boolean.class, char.class, String.class,
      int[].class, long[].class, char[].class, byte[].class);

  private static final Map<String, Set<String>> calls = new TreeMap<>();

  public static void main(String[] args) throws IOException {
    List<Class<?>> all = new ArrayList<>(List.of(Moonwheels.class.getDeclaredClasses()));
    all.add(Moonwheels.class);
    // Rule 11
    Check.is("some twelve classes: " + all.size(), all.size() <= 12, true);
    for (Class<?> type : all) {
      fields(type);
      for (Method m : type.getDeclaredMethods()) {
        Check.is("at most seven parameters: " + m.getName(), m.getParameterCount() <= 7, true);
      }
      try (InputStream in = LanguageTest.class.getResourceAsStream("/" + type.getName() + ".class")) {
        one(type, new ClassFile(in));
      }
    }
    depths();
    words();
    Check.end("LanguageTest");
  }

  // Rules 5 and 11
  private static void fields(Class<?> type) {
    int own = 0;
    for (Field f : type.getDeclaredFields()) {
      if (Modifier.isStatic(f.getModifiers())) {
        Check.is("a static field is final: " + f.getName(), Modifier.isFinal(f.getModifiers()), true);
        Check.is("and a constant: " + f.getName(), CONSTANTS.contains(f.getType()), true);
      } else {
        own++;
      }
    }
    Check.is("some twenty fields: " + type.getName(), own <= 20, true);
  }

  // Rules 2 (no lambda), 4, 6, 10 (no joining by +) and 11
  private static void one(Class<?> type, ClassFile file) {
    String name = type.getName();
    Check.is("no lambda, no method reference, no joining by +: " + name, file.isDynamic, false);
    for (String caught : file.caught) {
      Check.is(name + " catches", caught, "nothing");
    }
    for (String text : file.texts) {
      for (char c : text.toCharArray()) {
        Check.is("signs 1 to 127 in " + name, c >= 1 && c <= 127, true);
      }
    }
    for (Map.Entry<String, Integer> lines : file.lines.entrySet()) {
      Check.is("some sixty lines: " + lines.getKey(), lines.getValue() <= 58, true);
    }
    for (Map.Entry<String, Set<String>> entry : file.calls.entrySet()) {
      Set<String> own = new TreeSet<>();
      for (String called : entry.getValue()) {
        if (called.startsWith("Moonwheels")) {
          own.add(called);
        } else {
          Check.is("what the library may give: " + called, isAllowed(called), true);
        }
      }
      calls.put(entry.getKey(), own);
    }
  }

  private static boolean isAllowed(String called) {
    String name = called.substring(called.lastIndexOf('/', called.indexOf(':')) + 1, called.indexOf(':'));
    String kind = called.substring(called.indexOf(':') + 1);
    if (name.equals("StringBuilder.append")) {
      return APPENDED.contains(kind.substring(0, kind.indexOf(')') + 1));
    }
    if (THROWN.contains(name.replace(".<init>", ""))) {
      return kind.equals("()V") || kind.equals("(Ljava/lang/String;)V");
    }
    return LIBRARY.contains(name) && !kind.contains("D") && !kind.contains("F");
  }

  // Rule 11: eight deep; rule 8: no recursion, so the chain has an end
  private static void depths() {
    Check.is("methods are seen", calls.size() > 150, true);
    for (String method : calls.keySet()) {
      int depth = depth(method, 0);
      Check.is("at most eight deep: " + method + " goes " + depth, depth <= 8, true);
    }
  }

  private static int depth(String method, int ahead) {
    int most = 0;
    if (ahead < 20) {
      for (String called : calls.getOrDefault(method, Set.of())) {
        most = Math.max(most, depth(called, ahead + 1));
      }
    }
    return most + 1;
  }

  // Rules 2, 3, 5, 6
  private static void words() throws IOException {
    String source = Files.readString(SOURCE).replaceAll("(?s)/\\*.*?\\*/|//[^\n]*|\"[^\"\n]*\"", " ");
    for (String word : List.of("assert", "synchronized", "finally", "try", "catch", "volatile", "transient", "native",
        "package", "Object", "double", "float", "equals", "hashCode", "System", "Thread")) {
      Check.is("no " + word, Pattern.compile("\\b" + word + "\\b").matcher(source).find(), false);
    }
    Check.is("no static initialiser", Pattern.compile("\\bstatic\\s*\\{").matcher(source).find(), false);
    Check.is("one import", source.replaceAll("(?s)import java\\.util\\.ArrayList;", "").contains("import"), false);
    Check.is("no '->' and no '::'", source.contains("->") || source.contains("::"), false);
    for (char c : source.toCharArray()) {
      Check.is("signs of the source", c == '\n' || c >= 32 && c <= 126, true);
    }
  }
}
