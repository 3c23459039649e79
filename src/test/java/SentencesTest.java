import java.io.IOException;
import java.nio.file.Files;
import java.nio.file.Path;
import java.util.BitSet;
import java.util.List;
import java.util.regex.Matcher;
import java.util.regex.Pattern;
import java.util.stream.Collectors;
import java.util.stream.Stream;

/**
 * The sentences that the edge tests quote stand in the document, and whatever there names an edge stands in a
 * sentence that one of them quotes. Run in the project's folder.
 */
public final class SentencesTest {
  private static final Due due = new Due("SentencesTest");
  private static final Pattern QUOTE = Pattern.compile("due\\.sentence\\(\"([^\"]*)\"\\);");
  // How the document names edges: bounds, what there is at first, roundings, ties, refusals.
  private static final Pattern EDGE = Pattern.compile("\\.\\.|at most|at least|at first|rounded|or more|no more|not grow"
      + "|below|above|too early|beyond|not with|behind MONTH|of several|empty|less FAULT|since ever|can't stand"
      + "|without 0|stands? still|MISSING|what lacks|of no TUNE|\\bBAD\\b|\\bFULL\\b|\\bNONE\\b");

  private static String plain(String text) {
    return text.replaceAll("\\s+", " ");
  }

  // The face and what is not promised tell no edges; all else is held.
  private static String document() throws IOException {
    String text = Files.readString(Path.of("../shared/DOC.md"));
    String told = text.substring(text.indexOf("RAMS (4 at most)"), text.indexOf("## Not promised"));
    int face = told.indexOf("## The public face");
    return plain(told.substring(0, face) + told.substring(told.indexOf("## Terms")));
  }

  private static List<Path> edgeTests() throws IOException {
    try (Stream<Path> all = Files.list(Path.of("src/test/java"))) {
      return all.filter(p -> p.toString().matches(".*(Edges|Refusal)Test\\.java")).sorted().collect(Collectors.toList());
    }
  }

  private static BitSet quoted(String document, String tests) {
    BitSet held = new BitSet();
    Matcher quote = QUOTE.matcher(tests);
    while (quote.find()) {
      String words = quote.group(1);
      int at = document.indexOf(words);
      due.is("\"" + words + "\" stands in the document", at >= 0 ? 1 : 0, 1);
      for (; at >= 0; at = document.indexOf(words, at + 1)) {
        held.set(at, at + words.length());
      }
    }
    return held;
  }

  public static void main(String[] args) throws IOException {
    String document = document();
    StringBuilder tests = new StringBuilder();
    for (Path test : edgeTests()) {
      tests.append(Files.readString(test));
    }
    BitSet held = quoted(document, tests.toString());
    Matcher edge = EDGE.matcher(document);
    while (edge.find()) {
      int from = Math.max(0, edge.start() - 60), to = Math.min(document.length(), edge.end() + 60);
      boolean all = held.nextClearBit(edge.start()) >= edge.end();
      due.is("'" + edge.group() + "' is held in \".. " + document.substring(from, to) + " ..\"", all ? 1 : 0, 1);
    }
    due.end();
  }
}
