/** Promises 8 to 15: the spring, tuning alone and side by side, frost and silence. */
public final class TuningTest {
  private static final int BAD = -1, FULL = -3, NONE = -9;
  private static final Due due = new Due("TuningTest");

  private static void spring() {
    RamBook x = new RamBook();
    due.is("spring(0, 0)", x.spring(0, 0), 20000);
    due.is("spring(11, 1000000)", x.spring(11, 1000000), 20000);
    due.is("spring(11, 1000001)", x.spring(11, 1000001), BAD);
    due.is("spring(11, -1)", x.spring(11, -1), BAD);
    due.is("spring(12, 5)", x.spring(12, 5), BAD);
    due.is("spring(-1, 5)", x.spring(-1, 5), BAD);
    due.is("spring(11, 7)", x.spring(11, 7), 1000000);
    due.is("spring(0, 7)", x.spring(0, 7), 0);
    due.is("spring(1, 7)", x.spring(1, 7), 20000);
  }

  private static void tuned() {
    RamBook x = new RamBook();
    x.ram(50, 200, 100, 3);
    for (int aim = 0; aim < 2; aim++) {
      String name = "AIM " + aim + ": ";
      int weight = x.tuned(0, 3, aim, 0), stroke = x.tuned(0, 3, aim, 1), up = x.tuned(0, 3, aim, 2);
      due.is(name + "WEIGHT", weight, aim == 0 ? 5 : 70);
      due.is(name + "STROKE", stroke, aim == 0 ? 9 : 3);
      due.is("about(0, 4), not changed", x.about(0, 4), 60);
      due.is("about(0, 5), not changed", x.about(0, 5), 4);
      x.set(0, 4, weight);
      x.set(0, 5, stroke);
      due.is(name + "UP", x.hourly(0, 2), up);
      int draws = x.hourly(0, 3);
      x.spring(3, draws);
      due.is(name + "WEIGHT with just enough", x.tuned(0, 3, aim, 0), weight);
      due.is(name + "STROKE with just enough", x.tuned(0, 3, aim, 1), stroke);
      x.spring(3, draws - 1);
      boolean other = x.tuned(0, 3, aim, 0) != weight || x.tuned(0, 3, aim, 1) != stroke;
      due.is(name + "another pair with one less", other ? 1 : 0, 1);
      x.spring(3, 20000);
      x.set(0, 4, 60);
      x.set(0, 5, 4);
    }
    x.spring(3, 0);
    for (int what = 0; what < 3; what++) {
      due.is("no water: tuned(0, 3, 0, " + what + ")", x.tuned(0, 3, 0, what), NONE);
      due.is("no water: tuned(0, 3, 1, " + what + ")", x.tuned(0, 3, 1, what), NONE);
    }
    due.is("another month", x.tuned(0, 4, 0, 2), 2400);
    due.is("tuned(1, 0, 0, 0)", x.tuned(1, 0, 0, 0), BAD);
    due.is("tuned(-1, 0, 0, 0)", x.tuned(-1, 0, 0, 0), BAD);
    due.is("tuned(0, 12, 0, 0)", x.tuned(0, 12, 0, 0), BAD);
    due.is("tuned(0, -1, 0, 0)", x.tuned(0, -1, 0, 0), BAD);
    due.is("tuned(0, 0, 2, 0)", x.tuned(0, 0, 2, 0), BAD);
    due.is("tuned(0, 0, -1, 0)", x.tuned(0, 0, -1, 0), BAD);
    due.is("tuned(0, 0, 0, 3)", x.tuned(0, 0, 0, 3), BAD);
    due.is("tuned(0, 0, 0, -1)", x.tuned(0, 0, 0, -1), BAD);
  }

  // All 720 pairs by set() and hourly(): tuned() tells the best of them, and of several the first.
  private static void tunedByAll(int[] ram, int water, int choked, int leak) {
    RamBook x = new RamBook();
    RamBook y = new RamBook();
    x.ram(ram[0], ram[1], ram[2], ram[3]);
    x.set(0, 8, choked);
    x.set(0, 9, leak);
    x.spring(5, water);
    int[][] best = {{NONE, NONE, NONE, 0}, {NONE, NONE, NONE, 0}};
    for (int weight = 5; weight <= 400; weight += 5) {
      y = new RamBook();
      y.ram(ram[0], ram[1], ram[2], ram[3]);
      y.set(0, 8, choked);
      y.set(0, 9, leak);
      y.set(0, 4, weight);
      for (int stroke = 1; stroke <= 9; stroke++) {
        y.set(0, 5, stroke);
        int waste = y.hourly(0, 1), up = y.hourly(0, 2);
        if (up < 1 || y.hourly(0, 3) > water) {
          continue;
        }
        if (up > best[0][2]) {
          best[0] = new int[] {weight, stroke, up, waste};
        }
        if (best[1][2] < 0 || (long) waste * best[1][2] < (long) best[1][3] * up) {
          best[1] = new int[] {weight, stroke, up, waste};
        }
      }
    }
    for (int aim = 0; aim < 2; aim++) {
      for (int what = 0; what < 3; what++) {
        due.is("of all, water " + water + ": tuned(0, 5, " + aim + ", " + what + ")", x.tuned(0, 5, aim, what), best[aim][what]);
      }
    }
  }

  private static void tunes() {
    RamBook x = new RamBook();
    int[][] bad = {{4, 1}, {401, 1}, {5, 0}, {5, 10}, {-60, 4}, {60, -4}};
    for (int[] b : bad) {
      due.is("tune(" + b[0] + ", " + b[1] + ")", x.tune(b[0], b[1]), BAD);
    }
    int[][] good = {{5, 1}, {400, 9}, {61, 4}, {61, 4}, {7, 9}, {399, 1}};
    for (int k = 0; k < good.length; k++) {
      due.is("tune(" + good[k][0] + ", " + good[k][1] + ")", x.tune(good[k][0], good[k][1]), k);
    }
    due.is("a seventh", x.tune(60, 4), FULL);
    due.is("BAD ahead of FULL", x.tune(4, 4), BAD);
    due.is("count(1)", x.count(1), 6);
    due.is("forget()", x.forget(), 6);
    due.is("forget() again", x.forget(), 0);
    due.is("count(1), none", x.count(1), 0);
    due.is("the first anew", x.tune(60, 4), 0);
  }

  // Rams as in RamsTest: 60, 4 DRAWS 26214 with UP 2570.
  private static void side() {
    RamBook x = new RamBook();
    due.is("no rams: number", x.side(0, 0), 0);
    due.is("no rams: UP", x.side(0, 1), 0);
    x.ram(30, 150, 120, 4);
    x.ram(30, 150, 120, 4);
    due.is("no tunes: number", x.side(0, 0), 0);
    x.tune(400, 9);
    x.tune(60, 4);
    x.spring(0, 26213);
    x.spring(1, 26214);
    x.spring(2, 52427);
    x.spring(3, 52428);
    x.spring(4, 0);
    due.is("one less than one needs: number", x.side(0, 0), 0);
    due.is("one less than one needs: UP", x.side(0, 1), 0);
    due.is("just one: number, the least", x.side(1, 0), 2);
    due.is("just one: UP", x.side(1, 1), 2570);
    due.is("one less than two need: number", x.side(2, 0), 2);
    due.is("just two: number", x.side(3, 0), 2 + 7 * 2);
    due.is("just two: UP", x.side(3, 1), 5140);
    due.is("no water", x.side(4, 0), 0);
    // a ram that is off counts as any other
    x.set(0, 12, 0);
    due.is("off: number", x.side(3, 0), 16);
    due.is("about(0, 12), not changed", x.about(0, 12), 0);
    // with ram 0 choked by length it stalls with 400, 9
    x.spring(5, 1000000);
    x.set(0, 2, 900);
    due.is("ram 0 stalls with tune 0: beat", stallsWith(x, 400, 9) ? 1 : 0, 1);
    due.is("a stalling one may not be", x.side(5, 0) % 7 == 1 ? 1 : 0, 0);
    due.is("a tune told twice: the first", sideOfTwins(), 1 + 7 + 49 + 343);
    due.is("side(12, 0)", x.side(12, 0), BAD);
    due.is("side(-1, 0)", x.side(-1, 0), BAD);
    due.is("side(0, 2)", x.side(0, 2), BAD);
    due.is("side(0, -1)", x.side(0, -1), BAD);
  }

  private static boolean stallsWith(RamBook x, int weight, int stroke) {
    int w = x.set(0, 4, weight), s = x.set(0, 5, stroke);
    boolean stalls = x.beat(0, 0) == NONE;
    x.set(0, 4, w);
    x.set(0, 5, s);
    return stalls;
  }

  private static int sideOfTwins() {
    RamBook x = new RamBook();
    for (int i = 0; i < 4; i++) {
      x.ram(30, 150, 120, 4);
    }
    for (int k = 0; k < 6; k++) {
      x.tune(60, 4);
    }
    x.spring(0, 4 * 26214);
    due.is("four rams' UP", x.side(0, 1), 4 * 2570);
    return x.side(0, 0);
  }

  private static void take() {
    RamBook x = new RamBook();
    due.is("no rams: take(0)", x.take(0), 1);
    due.is("no rams: take(1)", x.take(1), BAD);
    x.ram(30, 150, 120, 4);
    x.ram(30, 150, 120, 4);
    x.ram(30, 150, 120, 4);
    x.tune(5, 1);
    x.tune(400, 9);
    due.is("take(2 + 0 + 49)", x.take(51), 1);
    int[][] want = {{400, 9, 1}, {60, 4, 0}, {5, 1, 1}};
    for (int i = 0; i < 3; i++) {
      due.is("WEIGHT of " + i, x.about(i, 4), want[i][0]);
      due.is("STROKE of " + i, x.about(i, 5), want[i][1]);
      due.is("runs " + i, x.about(i, 12), want[i][2]);
    }
    for (int number : new int[] {-1, 3, 3 * 7, 3 * 49, 343, 343 + 1, Integer.MAX_VALUE, Integer.MIN_VALUE}) {
      due.is("take(" + number + ")", x.take(number), BAD);
    }
    due.is("nothing changed: WEIGHT of 0", x.about(0, 4), 400);
    due.is("nothing changed: runs 1", x.about(1, 12), 0);
    due.is("a good digit ahead of a bad one", x.take(1 + 7 * 3), BAD);
    due.is("still nothing changed", x.about(0, 4), 400);
    due.is("take(7)", x.take(7), 1);
    due.is("runs again", x.about(1, 12), 1);
    due.is("its WEIGHT", x.about(1, 4), 5);
    due.is("another stands still, as it was", x.about(0, 4), 400);
    due.is("take(0)", x.take(0), 1);
    due.is("none runs", x.about(0, 12) + x.about(1, 12) + x.about(2, 12), 0);
    x.forget();
    due.is("no tunes: take(1)", x.take(1), BAD);
  }

  // AIR lost tells in how many hours a ram beat.
  private static int beatenIn(RamBook x, int hours) {
    int air = x.about(0, 6);
    x.hours(hours);
    return air - x.about(0, 6);
  }

  private static void frost() {
    RamBook x = new RamBook();
    x.ram(30, 150, 120, 4);
    x.spring(0, 1000000);
    x.spring(1, 1000000);
    due.is("frost(0, 23)", x.frost(0, 23), 0);
    due.is("frost(0, 24)", x.frost(0, 24), BAD);
    due.is("frost(0, -1)", x.frost(0, -1), BAD);
    due.is("frost(12, 3)", x.frost(12, 3), BAD);
    due.is("frost(-1, 3)", x.frost(-1, 3), BAD);
    due.is("STROKE 4 in frost", beatenIn(x, 24), 24);
    x.set(0, 5, 3);
    due.is("STROKE 3 in frost", beatenIn(x, 24), 24);
    x.set(0, 5, 2);
    due.is("STROKE 2 in frost", beatenIn(x, 24), 1);
    due.is("frost(0, 6)", x.frost(0, 6), 23);
    due.is("to hour 6", beatenIn(x, 6), 0);
    due.is("at hour 6", beatenIn(x, 1), 1);
    x.hours(17);
    x.set(0, 12, 0);
    x.hours(26 * 24);
    x.set(0, 12, 1);
    x.set(0, 6, 100);
    due.is("month 1", x.count(4), 1);
    due.is("no frost in month 1", beatenIn(x, 6), 6);
  }

  private static void silence() {
    RamBook x = new RamBook();
    x.ram(30, 150, 120, 4);
    x.spring(0, 1000000);
    due.is("silence(5, 4)", x.silence(5, 4), BAD);
    due.is("silence(-1, 4)", x.silence(-1, 4), BAD);
    due.is("silence(0, 25)", x.silence(0, 25), BAD);
    due.is("silence(25, 25)", x.silence(25, 25), BAD);
    due.is("refused ones change nothing", beatenIn(x, 24), 24);
    due.is("silence(4, 7)", x.silence(4, 7), 1);
    due.is("ahead of 4", beatenIn(x, 4), 4);
    due.is("4 to 7", beatenIn(x, 3), 0);
    due.is("from 7", beatenIn(x, 17), 17);
    due.is("silence(0, 24)", x.silence(0, 24), 1);
    due.is("a whole day", beatenIn(x, 24), 0);
    due.is("silence(24, 24)", x.silence(24, 24), 1);
    due.is("none", beatenIn(x, 24), 24);
    due.is("silence(0, 0)", x.silence(0, 0), 1);
    due.is("none again", beatenIn(x, 1), 1);
  }

  public static void main(String[] args) {
    spring();
    tuned();
    tunedByAll(new int[] {50, 200, 100, 3}, 20000, 0, 0);
    tunedByAll(new int[] {50, 200, 100, 3}, 4000, 1, 2);
    tunedByAll(new int[] {20, 300, 300, 6}, 20000, 0, 0);
    tunedByAll(new int[] {120, 130, 60, 9}, 1000000, 3, 3);
    tunedByAll(new int[] {7, 900, 900, 1}, 1000000, 0, 0);
    tunes();
    side();
    take();
    frost();
    silence();
    due.end();
  }
}
