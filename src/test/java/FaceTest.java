import java.io.IOException;
import java.lang.reflect.Constructor;
import java.lang.reflect.Field;
import java.lang.reflect.Method;
import java.lang.reflect.Modifier;
import java.nio.file.Files;
import java.nio.file.Path;
import java.util.Set;
import java.util.TreeSet;
import java.util.regex.Matcher;
import java.util.regex.Pattern;

/** "The public face" of the document, word by word, and nothing beside it (LANGUAGE.md, rule 1). */
public final class FaceTest {
  private static final Path DOCUMENT = Path.of("../shared/DOC.md");
  private static final Path SOURCE = Path.of("src/main/java/Moonwheels.java");

  public static void main(String[] args) throws IOException {
    Set<String> due = headers(javaBlock(Files.readString(DOCUMENT)));
    Set<String> got = headers(Files.readString(SOURCE));
    // The class, its constructor and 55 methods.
    Check.is("headers of the document", due.size(), 57);
    for (String header : due) {
      Check.is("the class has: " + header, got.contains(header), true);
    }
    for (String header : got) {
      Check.is("the document has: " + header, due.contains(header), true);
    }
    promisesOf(Files.readString(DOCUMENT), got);
    members();
    Check.end("FaceTest");
  }

  private static String javaBlock(String document) {
    int from = document.indexOf("```java");
    return document.substring(from, document.indexOf("```", from + 7));
  }

  /** Each "public .." up to "{" or ";", with single spaces. */
  private static Set<String> headers(String text) {
    Set<String> row = new TreeSet<>();
    Matcher m = Pattern.compile("\\bpublic\\s+([^{;]*)[{;]").matcher(text);
    while (m.find()) {
      row.add(m.group(1).trim().replaceAll("\\s+", " "));
    }
    return row;
  }

  /** Each promise tells its signature once more. */
  private static void promisesOf(String document, Set<String> got) {
    Matcher m = Pattern.compile("\n## Promise (\\d+): .*\n\n`([^`]*)`").matcher(document);
    int promises = 0;
    while (m.find()) {
      promises++;
      Check.is("number of a promise", m.group(1), "" + promises);
      Check.is("promise " + promises + ": " + m.group(2), got.contains(m.group(2)), true);
    }
    Check.is("promises", promises, 56);
  }

  private static void members() {
    Class<?> face = Moonwheels.class;
    Check.is("final", Modifier.isFinal(face.getModifiers()), true);
    Check.is("without a package", face.getPackageName(), "");
    Set<String> publicNames = new TreeSet<>();
    for (Method m : face.getDeclaredMethods()) {
      boolean isPublic = Modifier.isPublic(m.getModifiers());
      Check.is("public or private: " + m.getName(), isPublic || Modifier.isPrivate(m.getModifiers()), true);
      Check.is("of an object: " + m.getName(), isPublic && Modifier.isStatic(m.getModifiers()), false);
      if (isPublic) {
        publicNames.add(m.getName());
      }
    }
    for (Constructor<?> c : face.getDeclaredConstructors()) {
      Check.is("a public constructor without arguments", Modifier.isPublic(c.getModifiers()), true);
    }
    Check.is("one constructor", face.getDeclaredConstructors().length, 1);
    for (Field f : face.getDeclaredFields()) {
      Check.is("private: " + f.getName(), Modifier.isPrivate(f.getModifiers()), true);
    }
    privateNames(face, publicNames);
    for (Class<?> inside : face.getDeclaredClasses()) {
      int modifiers = inside.getModifiers();
      Check.is("static: " + inside.getName(), Modifier.isStatic(modifiers), true);
      Check.is("hidden: " + inside.getName(), Modifier.isPublic(modifiers) || Modifier.isProtected(modifiers), false);
      privateNames(inside, publicNames);
    }
  }

  private static void privateNames(Class<?> type, Set<String> publicNames) {
    for (Method m : type.getDeclaredMethods()) {
      if (Modifier.isPrivate(m.getModifiers())) {
        Check.is(type.getName() + "." + m.getName() + ": no public name", publicNames.contains(m.getName()), false);
      }
    }
  }
}
