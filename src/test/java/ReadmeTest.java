import java.io.IOException;
import java.lang.reflect.Method;
import java.lang.reflect.Modifier;
import java.net.URL;
import java.net.URLClassLoader;
import java.nio.file.Files;
import java.nio.file.Path;
import java.util.ArrayList;
import java.util.Comparator;
import java.util.List;
import java.util.regex.Matcher;
import java.util.regex.Pattern;
import java.util.stream.Stream;

/**
 * README.md tells the truth: it names every call and every test, and its examples, compiled and run one behind the
 * other, answer what stands behind them. Run in the project's folder.
 */
public final class ReadmeTest {
  private static final Due due = new Due("ReadmeTest");
  private static final Pattern BLOCK = Pattern.compile("```java\n(.*?)```", Pattern.DOTALL);
  // A call, perhaps kept by a name, and its answer: words.
  private static final Pattern ANSWERED = Pattern.compile("(?:int (\\w+) = )?(\\w.*);\\s+// (-?\\d+)(:.*)?");

  // A line with an answer behind it hands out its call, what that answered, and what README.md says.
  private static String handOut(String line) {
    Matcher m = ANSWERED.matcher(line);
    if (!m.matches()) {
      return line + "\n";
    }
    String name = m.group(1), call = m.group(2);
    String kept = name == null ? "" : "int " + name + " = " + call + "; ";
    String text = "\"" + call.replace("\"", "\\\"") + "\"";
    String got = "(long) " + (name == null ? call : name);
    return kept + "answers.add(new Object[] {" + text + ", " + got + ", " + m.group(3) + "L});\n";
  }

  // Blocks that begin with a static method are helpers; all others go one behind the other.
  private static String program(String readme) {
    StringBuilder helpers = new StringBuilder();
    StringBuilder lines = new StringBuilder();
    Matcher block = BLOCK.matcher(readme);
    while (block.find()) {
      if (block.group(1).startsWith("static ")) {
        helpers.append(block.group(1));
      } else {
        block.group(1).lines().forEach(line -> lines.append(handOut(line)));
      }
    }
    return "public final class Examples {\n" + helpers
        + "public static void run(java.util.List<Object[]> answers) {\n" + lines + "}\n}\n";
  }

  private static void holdExamples(String program, Path out) throws Exception {
    Path source = Files.writeString(out.resolve("Examples.java"), program);
    Process javac = new ProcessBuilder("javac", "-cp", System.getProperty("java.class.path"), "-d", out.toString(),
        source.toString()).inheritIO().start();
    int refused = javac.waitFor();
    due.is("whether javac refuses the examples", refused, 0);
    if (refused != 0) {
      return;
    }
    List<Object[]> answers = new ArrayList<>();
    URL[] places = {out.toUri().toURL()};
    try (URLClassLoader loader = new URLClassLoader(places, ReadmeTest.class.getClassLoader())) {
      loader.loadClass("Examples").getMethod("run", List.class).invoke(null, answers);
    }
    for (Object[] answer : answers) {
      due.is((String) answer[0], (Long) answer[1], (Long) answer[2]);
    }
    // Else a README.md whose answers are written in another form would pass with none of them held.
    due.is("whether thirty answers at least were held", answers.size() >= 30 ? 1 : 0, 1);
  }

  private static void remove(Path folder) throws IOException {
    try (Stream<Path> files = Files.walk(folder)) {
      for (Path file : files.sorted(Comparator.reverseOrder()).toList()) {
        Files.delete(file);
      }
    }
  }

  private static void namesAllCalls(String readme) {
    for (Method m : RamBook.class.getDeclaredMethods()) {
      if (Modifier.isPublic(m.getModifiers())) {
        int numbers = m.getParameterCount();
        String inside = numbers == 0 ? "" : "\\w+(, \\w+){" + (numbers - 1) + "}";
        Pattern row = Pattern.compile("\n\\| `" + m.getName() + "\\(" + inside + "\\)` \\| ");
        due.is("whether a row tells of " + m.getName(), row.matcher(readme).find() ? 1 : 0, 1);
      }
    }
  }

  private static void namesAllTests(String readme) throws IOException {
    try (Stream<Path> all = Files.list(Path.of("src/test/java"))) {
      for (Path test : all.filter(p -> p.toString().endsWith("Test.java")).sorted().toList()) {
        String name = test.getFileName().toString().replace(".java", "");
        due.is("whether " + name + " is named", readme.contains("`" + name + "`") ? 1 : 0, 1);
      }
    }
  }

  public static void main(String[] args) throws Exception {
    String readme = Files.readString(Path.of("README.md"));
    namesAllCalls(readme);
    namesAllTests(readme);
    Path out = Files.createTempDirectory("readme");
    try {
      holdExamples(program(readme), out);
    } finally {
      remove(out);
    }
    due.end();
  }
}
