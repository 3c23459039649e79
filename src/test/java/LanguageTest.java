import java.io.IOException;
import java.lang.reflect.Field;
import java.lang.reflect.Method;
import java.lang.reflect.Modifier;
import java.nio.file.Files;
import java.nio.file.Path;
import java.util.ArrayList;
import java.util.List;
import java.util.Map;
import java.util.Set;
import java.util.TreeMap;
import java.util.regex.Matcher;
import java.util.regex.Pattern;

/** Those rules of LANGUAGE.md that can be seen in RamBook.java or its classes. Run in the project's folder. */
public final class LanguageTest {
  private static final Due due = new Due("LanguageTest");
  private static final Set<String> IMPORTS = Set.of("java.util.ArrayList", "java.util.Arrays", "java.util.Iterator", "java.util.List");

  private static int found(String text, String pattern) {
    Matcher m = Pattern.compile(pattern).matcher(text);
    int n = 0;
    while (m.find()) {
      n++;
    }
    return n;
  }

  // Rules 5 and 11: what a class may have.
  private static void holdClass(Class<?> c) {
    int fields = 0;
    for (Field f : c.getDeclaredFields()) {
      fields += Modifier.isStatic(f.getModifiers()) ? 0 : 1;
      boolean free = Modifier.isStatic(f.getModifiers()) && !Modifier.isFinal(f.getModifiers());
      due.is("whether " + c.getName() + "." + f.getName() + " is static and not final", free ? 1 : 0, 0);
    }
    due.is("whether twenty fields at most are in " + c.getName(), fields <= 20 ? 1 : 0, 1);
    for (Method m : c.getDeclaredMethods()) {
      due.is("whether seven numbers at most go to " + m.getName(), m.getParameterCount() <= 7 ? 1 : 0, 1);
    }
  }

  // The bodies of all methods by name; two classes may use one name, then both bodies stand there.
  private static Map<String, String> methods(String text) {
    Map<String, String> bodies = new TreeMap<>();
    Pattern head = Pattern.compile("(?m)^( +)(?:(?:public|private|static|final) )*[\\w\\[\\]]+(?: (\\w+))?\\([^)]*\\) \\{$");
    Matcher m = head.matcher(text);
    while (m.find()) {
      String indent = m.group(1);
      if (m.group(2) == null) {
        continue;
      }
      String body = text.substring(m.end(), text.indexOf("\n" + indent + "}", m.end()));
      due.is("whether sixty lines at most are in " + m.group(2), body.lines().count() <= 60 ? 1 : 0, 1);
      bodies.merge(m.group(2), body, String::concat);
    }
    return bodies;
  }

  // How many calls stand open at once from this one on; more than there are methods, if one calls itself.
  private static int depth(String name, Map<String, String> bodies, List<String> open) {
    if (open.contains(name)) {
      return bodies.size() + 1;
    }
    open.add(name);
    int deepest = 0;
    Matcher call = Pattern.compile("\\b(\\w+)\\(").matcher(bodies.get(name));
    while (call.find()) {
      if (bodies.containsKey(call.group(1))) {
        deepest = Math.max(deepest, depth(call.group(1), bodies, open));
      }
    }
    open.remove(name);
    return deepest + 1;
  }

  private static void holdDepth(String text) {
    Map<String, String> bodies = methods(text);
    for (Method m : RamBook.class.getDeclaredMethods()) {
      boolean known = bodies.containsKey(m.getName());
      due.is("whether the body of " + m.getName() + " was found", known ? 1 : 0, 1);
      if (known) {
        due.is("whether " + m.getName() + " goes eight deep at most", depth(m.getName(), bodies, new ArrayList<>()) <= 8 ? 1 : 0, 1);
      }
    }
  }

  public static void main(String[] args) throws IOException {
    byte[] bytes = Files.readAllBytes(Path.of("src/main/java/RamBook.java"));
    for (byte b : bytes) {
      if (b < 9) {
        due.is("a sign beyond 127", b, 0);
      }
    }
    String text = new String(bytes, java.nio.charset.StandardCharsets.US_ASCII)
        .replaceAll("(?s)/\\*.*?\\*/", "").replaceAll("//[^\n]*", "");
    for (String word : new String[] {"throw", "throws", "try", "catch", "finally", "synchronized", "assert", "package",
        "volatile", "native", "protected", "float", "double", "System\\.out", "Thread", "Random", "Exact"}) {
      due.is("'" + word + "' stands there so often", found(text, "\\b" + word + "\\b"), 0);
    }
    due.is("lambdas", found(text, "->"), 0);
    due.is("method references", found(text, "::"), 0);
    due.is("static blocks", found(text, "static\\s*\\{"), 0);
    due.is("at most twelve classes", found(text, "\\b(class|record|enum|interface)\\s+[A-Z]") <= 12 ? 1 : 0, 1);
    due.is("each class inside is static", found(text, "\\bclass\\s") - found(text, "\\bstatic (final )?class\\s"), 1);
    Matcher imports = Pattern.compile("import ([^;]*);").matcher(text);
    while (imports.find()) {
      due.is("import " + imports.group(1), IMPORTS.contains(imports.group(1)) ? 1 : 0, 1);
    }
    holdClass(RamBook.class);
    for (Class<?> c : RamBook.class.getDeclaredClasses()) {
      holdClass(c);
    }
    holdDepth(text);
    // Divisors other than numbers written out and constants stand in share() alone, behind their test.
    due.is("divisors that may be 0", found(text, "[/%]=?+\\s*+(?![0-9]|Tunes\\.DIGITS|DIGITS|MONTHS)"), 1);
    due.end();
  }
}
