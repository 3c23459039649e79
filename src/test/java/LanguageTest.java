import java.io.IOException;
import java.nio.file.Files;
import java.nio.file.Path;
import java.util.Set;
import java.util.regex.Matcher;
import java.util.regex.Pattern;

/** Those rules of LANGUAGE.md that can be seen in the text of RamBook.java. Run in the project's folder. */
public final class LanguageTest {
  private static final Set<String> IMPORTS = Set.of("java.util.ArrayList", "java.util.Arrays", "java.util.Iterator", "java.util.List");

  private static int found(String text, String pattern) {
    Matcher m = Pattern.compile(pattern).matcher(text);
    int n = 0;
    while (m.find()) {
      n++;
    }
    return n;
  }

  public static void main(String[] args) throws IOException {
    Due due = new Due("LanguageTest");
    byte[] bytes = Files.readAllBytes(Path.of("src/main/java/RamBook.java"));
    for (byte b : bytes) {
      if (b < 9) {
        due.is("a sign beyond 127", b, 0);
      }
    }
    String text = new String(bytes, java.nio.charset.StandardCharsets.US_ASCII)
        .replaceAll("(?s)/\\*.*?\\*/", "").replaceAll("//[^\n]*", "");
    for (String word : new String[] {"throw", "throws", "try", "catch", "finally", "synchronized", "assert", "package",
        "volatile", "native", "protected", "float", "double", "System\\.out", "Thread", "Random", "Exact"}) {
      due.is("'" + word + "' stands there so often", found(text, "\\b" + word + "\\b"), 0);
    }
    due.is("lambdas", found(text, "->"), 0);
    due.is("method references", found(text, "::"), 0);
    due.is("static blocks", found(text, "static\\s*\\{"), 0);
    due.is("at most twelve classes", found(text, "\\b(class|record|enum|interface)\\s+[A-Z]") <= 12 ? 1 : 0, 1);
    due.is("each class inside is static", found(text, "\\bclass\\s") - found(text, "\\bstatic (final )?class\\s"), 1);
    Matcher imports = Pattern.compile("import ([^;]*);").matcher(text);
    while (imports.find()) {
      due.is("import " + imports.group(1), IMPORTS.contains(imports.group(1)) ? 1 : 0, 1);
    }
    // Divisors other than numbers written out and constants stand in share() alone, behind their test.
    due.is("divisors that may be 0", found(text, "[/%]=?+\\s*+(?![0-9]|Tunes\\.DIGITS|DIGITS|MONTHS)"), 1);
    due.end();
  }
}
