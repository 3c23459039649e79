import java.nio.charset.StandardCharsets;

/** Holds answers against those that are due, and ends a test with exit code 1 if one of them was not. */
final class Due {
  private final String test;
  private int held = 0;
  private int wrong = 0;
  // The words of the document that are held now, ahead of every call in the report; none at first.
  private String words = "";
  private int heldBefore = -1;

  Due(String test) {
    this.test = test;
  }

  /** From here on answers are held for these words of the document. SentencesTest looks whether they stand there. */
  void sentence(String quoted) {
    endSentence();
    words = "\"" + quoted + "\" ";
    heldBefore = held;
  }

  // Words behind which nothing is held would look tested, and not be.
  private void endSentence() {
    if (held == heldBefore) {
      wrong++;
      System.out.println(test + ": " + words + "nothing is held");
    }
  }

  void is(String call, long got, long want) {
    held++;
    if (got != want) {
      wrong++;
      System.out.println(test + ": " + words + call + " answered " + got + ", due is " + want);
    }
  }

  void end() {
    endSentence();
    System.out.println(test + ": " + held + " answers, " + wrong + " not as due");
    if (wrong != 0) {
      System.exit(1);
    }
  }

  /** Types a text in pieces of eight bytes at most. */
  static int type(RamBook x, String text) {
    byte[] bytes = text.getBytes(StandardCharsets.ISO_8859_1);
    int last = 0;
    for (int at = 0; at < bytes.length; at += 8) {
      int n = Math.min(8, bytes.length - at);
      long v = 0;
      for (int i = 0; i < n; i++) {
        v = v << 8 | bytes[at + i] & 0xFF;
      }
      last = x.type(v, n);
    }
    return last;
  }
}
