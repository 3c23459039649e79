/** Promises 23 to 29: readings, tolerances, the causes that fit, what is sure, the next look, counts. */
public final class AilsTest {
  private static final int BAD = -1, FULL = -3, NONE = -9;
  private static final Due due = new Due("AilsTest");

  private static RamBook withRam() {
    RamBook x = new RamBook();
    x.ram(30, 150, 120, 4);
    return x;
  }

  private static void read() {
    RamBook x = withRam();
    x.ram(40, 160, 80, 5);
    int[][] bad = {{2, 5, 5}, {-1, 5, 5}, {0, NONE, NONE}, {0, -1, 5}, {0, 5, -1}, {0, 1000001, 5}, {0, 5, 1000001},
        {0, -8, 5}, {0, NONE, -10}, {0, Integer.MIN_VALUE, NONE}, {0, NONE, Integer.MAX_VALUE}};
    for (int[] b : bad) {
      due.is("read(" + b[0] + ", " + b[1] + ", " + b[2] + ")", x.read(b[0], b[1], b[2]), BAD);
    }
    due.is("count(3) after refusals", x.count(3), 0);
    int[][] good = {{0, 0, 0}, {1, 1000000, 1000000}, {0, NONE, 5}, {1, 5, NONE}};
    for (int i = 0; i < 12; i++) {
      int[] g = good[i % 4];
      due.is("read(" + g[0] + ", " + g[1] + ", " + g[2] + ")", x.read(g[0], g[1], g[2]), i + 1);
    }
    due.is("a thirteenth", x.read(0, 5, 5), FULL);
    due.is("of another ram", x.read(1, 5, 5), FULL);
    due.is("BAD ahead of FULL", x.read(0, NONE, NONE), BAD);
    due.is("count(3)", x.count(3), 12);
    due.is("wipe()", x.wipe(), 12);
    due.is("wipe() again", x.wipe(), 0);
    due.is("count(3), none", x.count(3), 0);
    due.is("the first anew", x.read(0, 5, 5), 1);
  }

  private static void tolerance() {
    RamBook x = withRam();
    due.is("tolerance(0, 500)", x.tolerance(0, 500), 20);
    due.is("tolerance(0, 0)", x.tolerance(0, 0), 500);
    due.is("tolerance(1, 50)", x.tolerance(1, 50), 5);
    due.is("tolerance(1, 0)", x.tolerance(1, 0), 50);
    due.is("tolerance(0, 501)", x.tolerance(0, 501), BAD);
    due.is("tolerance(0, -1)", x.tolerance(0, -1), BAD);
    due.is("tolerance(1, 51)", x.tolerance(1, 51), BAD);
    due.is("tolerance(1, -1)", x.tolerance(1, -1), BAD);
    due.is("tolerance(2, 0)", x.tolerance(2, 0), BAD);
    due.is("tolerance(-1, 0)", x.tolerance(-1, 0), BAD);
    due.is("as it was, BEATS", x.tolerance(0, 1), 0);
    due.is("as it was, UP", x.tolerance(1, 1), 0);
  }

  // A healthy ram: 514 BEATS, UP 2570.
  private static void fits() {
    int[][] rows = {{514, 2570, 1}, {534, 2570, 1}, {535, 2570, 0}, {494, NONE, 1}, {493, NONE, 0},
        {NONE, 2570, 1}, {NONE, 2705, 1}, {NONE, 2706, 0}, {NONE, 2448, 1}, {NONE, 2447, 0}, {535, NONE, 0}};
    for (int[] r : rows) {
      RamBook x = withRam();
      x.read(0, r[0], r[1]);
      due.is("read(0, " + r[0] + ", " + r[1] + "): fits(0, 0)", x.fits(0, 0), r[2]);
    }
    RamBook x = withRam();
    x.tolerance(0, 0);
    x.tolerance(1, 0);
    x.read(0, 514, 2570);
    due.is("fits(0, 0) exactly", x.fits(0, 0), 1);
    x.set(0, 7, 3);
    x.set(0, 8, 2);
    x.set(0, 9, 1);
    x.set(0, 6, 7);
    due.is("whatever ails it now", x.fits(0, 0), 1);
    due.is("about(0, 7), not changed", x.about(0, 7), 3);
    due.is("about(0, 8), not changed", x.about(0, 8), 2);
    due.is("about(0, 9), not changed", x.about(0, 9), 1);
    due.is("about(0, 6), not changed", x.about(0, 6), 7);
    x.read(0, 514, 2571);
    due.is("each of the readings", x.fits(0, 0), 0);
    due.is("fits(0, -1)", x.fits(0, -1), BAD);
    due.is("fits(0, 256)", x.fits(0, 256), BAD);
    due.is("fits(1, 0)", x.fits(1, 0), BAD);
    due.is("fits(-1, 0)", x.fits(-1, 0), BAD);
  }

  // With each cause the ram is set to what the cause tells, and read: that cause fits exactly.
  private static void causes() {
    int[] airs = {100, 60, 20, 0};
    for (int cause = 0; cause < 256; cause++) {
      RamBook x = new RamBook();
      x.ram(130, 150, 150, 9);
      x.ram(30, 150, 120, 4);
      x.set(0, 10, 2);
      x.set(0, 7, cause % 4);
      x.set(0, 8, cause / 4 % 4);
      x.set(0, 9, cause / 16 % 4);
      x.set(0, 6, airs[cause / 64]);
      x.tolerance(0, 0);
      x.tolerance(1, 0);
      x.read(0, x.hourly(0, 0), x.hourly(0, 2));
      x.read(1, 1, 1);
      due.is("fits(0, " + cause + ")", x.fits(0, cause), 1);
      int fitting = 0;
      int least = NONE;
      int[][] tally = new int[4][4];
      for (int c = 255; c >= 0; c--) {
        if (x.fits(0, c) == 1) {
          fitting++;
          least = c;
          tally[0][c % 4]++;
          tally[1][c / 4 % 4]++;
          tally[2][c / 16 % 4]++;
          tally[3][c / 64]++;
        }
      }
      due.is(cause + ": ails(0, 0)", x.ails(0, 0), fitting);
      due.is(cause + ": ails(0, 1)", x.ails(0, 1), least);
      int look = NONE;
      int lookMost = 257;
      for (int what = 0; what < 4; what++) {
        int most = 0;
        int only = NONE;
        for (int v = 0; v < 4; v++) {
          most = Math.max(most, tally[what][v]);
          only = tally[what][v] == fitting ? v : only;
        }
        due.is(cause + ": sure(0, " + what + ")", x.sure(0, what), only);
        if (most < lookMost && fitting > 1) {
          look = what;
          lookMost = most;
        }
      }
      due.is(cause + ": ails(0, 2)", x.ails(0, 2), look);
      due.is(cause + ": about(0, 6)", x.about(0, 6), airs[cause / 64]);
    }
  }

  private static void nothingAndAll() {
    RamBook x = withRam();
    x.ram(40, 160, 80, 5);
    x.read(1, 1000000, NONE);
    due.is("other rams' readings do not count", x.ails(0, 0), 256);
    due.is("the least", x.ails(0, 1), 0);
    due.is("the first look", x.ails(0, 2), 0);
    for (int what = 0; what < 4; what++) {
      due.is("not sure of " + what, x.sure(0, what), NONE);
      due.is("none fits: " + what, x.sure(1, what), NONE);
    }
    due.is("none fits", x.ails(1, 0), 0);
    due.is("none is the least", x.ails(1, 1), NONE);
    due.is("no look", x.ails(1, 2), NONE);
    due.is("ails(0, 3)", x.ails(0, 3), BAD);
    due.is("ails(0, -1)", x.ails(0, -1), BAD);
    due.is("ails(2, 0)", x.ails(2, 0), BAD);
    due.is("ails(-1, 0)", x.ails(-1, 0), BAD);
    due.is("sure(0, 4)", x.sure(0, 4), BAD);
    due.is("sure(0, -1)", x.sure(0, -1), BAD);
    due.is("sure(2, 0)", x.sure(2, 0), BAD);
    due.is("sure(-1, 0)", x.sure(-1, 0), BAD);
    x.wipe();
    due.is("wiped", x.ails(1, 0), 256);
  }

  private static void count() {
    RamBook x = withRam();
    x.ram(40, 160, 80, 5);
    x.tune(60, 4);
    x.tune(60, 5);
    x.tune(60, 6);
    Due.type(x, "f0 0-1:1;f1 2-3:4;f1 2-3:4;f1 2-3:4;");
    x.rights();
    x.read(0, 1, 1);
    x.hours(720);
    x.hours(720);
    x.hours(24 * 7 + 9);
    x.type(0, 6);
    int[] want = {2, 3, 4, 1, 2, 7, 9, 6};
    for (int what = 0; what < want.length; what++) {
      due.is("count(" + what + ")", x.count(what), want[what]);
    }
    due.is("count(8)", x.count(8), BAD);
    due.is("count(-1)", x.count(-1), BAD);
  }

  public static void main(String[] args) {
    read();
    tolerance();
    fits();
    causes();
    nothingAndAll();
    count();
    due.end();
  }
}
