import java.nio.charset.StandardCharsets;

/** Holds answers against those that are due, and ends a test with exit code 1 if one of them was not. */
final class Due {
  private final String test;
  private int held = 0;
  private int wrong = 0;

  Due(String test) {
    this.test = test;
  }

  void is(String call, long got, long want) {
    held++;
    if (got != want) {
      wrong++;
      System.out.println(test + ": " + call + " answered " + got + ", due is " + want);
    }
  }

  void end() {
    System.out.println(test + ": " + held + " answers, " + wrong + " not as due");
    if (wrong != 0) {
      System.exit(1);
    }
  }

  /** Types a text in pieces of eight bytes at most. */
  static int type(RamBook x, String text) {
    byte[] bytes = text.getBytes(StandardCharsets.ISO_8859_1);
    int last = 0;
    for (int at = 0; at < bytes.length; at += 8) {
      int n = Math.min(8, bytes.length - at);
      long v = 0;
      for (int i = 0; i < n; i++) {
        v = v << 8 | bytes[at + i] & 0xFF;
      }
      last = x.type(v, n);
    }
    return last;
  }
}
