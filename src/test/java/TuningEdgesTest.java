/** Edges of the document's part 2 and of promises 8 to 15, sentence by sentence. */
public final class TuningEdgesTest {
  private static final int BAD = -1, FULL = -3, NONE = -9;
  private static final int WEIGHT = 4, STROKE = 5, AIR = 6, WORN = 7, CHOKED = 8, RUNS = 12;
  private static final Due due = new Due("TuningEdgesTest");

  private static void spring() {
    due.sentence("THE SPRING gives by MONTHS 0 .. 11 so much an HOUR (0 .. 1000000; 20000 each at first).");
    RamBook x = new RamBook();
    for (int month = 0; month <= 11; month++) {
      due.is("spring(" + month + ", 0)", x.spring(month, 0), 20000);
      due.is("spring(" + month + ", 1000000)", x.spring(month, 1000000), 0);
      due.is("spring(" + month + ", 1000001)", x.spring(month, 1000001), BAD);
      due.is("spring(" + month + ", -1)", x.spring(month, -1), BAD);
      due.is("spring(" + month + ", 5)", x.spring(month, 5), 1000000);
    }
    due.sentence("THE SPRING of a MONTH becomes v: what it was. BAD.");
    due.is("spring(-1, 5)", x.spring(-1, 5), BAD);
    due.is("spring(12, 5)", x.spring(12, 5), BAD);
    due.is("spring(11, 5), the same again", x.spring(11, 5), 5);
  }

  // One ram: FALL, RISE, LONG, BORE, the water of month 0; then AIM, WEIGHT, STROKE, UP.
  private static void best(int[] row) {
    RamBook x = Made.ram(row[0], row[1], row[2], row[3]);
    x.spring(0, row[4]);
    String name = "ram(" + row[0] + ", " + row[1] + ", " + row[2] + ", " + row[3] + "), " + row[4] + ", AIM " + row[5] + ": ";
    due.is(name + "WEIGHT", x.tuned(0, 0, row[5], 0), row[6]);
    due.is(name + "STROKE", x.tuned(0, 0, row[5], 1), row[7]);
    due.is(name + "UP", x.tuned(0, 0, row[5], 2), row[8]);
  }

  private static int hourly(int[] row, int weight, int stroke, int what) {
    return Made.ram(row[0], row[1], row[2], row[3], WEIGHT, weight, STROKE, stroke).hourly(0, what);
  }

  private static void tunedPairs() {
    due.sentence("of WEIGHTS 5, 10, .. 400 and STROKES 1 .. 9, as it is otherwise");
    best(new int[] {195, 987, 33, 4, 1000000, 0, 5, 9, 21600});
    best(new int[] {195, 987, 33, 4, 1000000, 1, 5, 1, 2400});
    best(new int[] {34, 448, 501, 5, 1000000, 0, 400, 9, 22715});
    best(new int[] {18, 345, 335, 9, 21158, 0, 400, 1, 624});
    int[] between = {6, 129, 360, 3, 10100, 0, 80, 2, 264};
    due.is("WEIGHT 14 would lift more", hourly(between, 14, 4, 2), 288);
    due.is("WEIGHT 14 finds the water", hourly(between, 14, 4, 3), 10080);
    best(between);
    // a STROKE of 0 would do with 10080, as WORN alone opens the valve
    RamBook worn = Made.ram(92, 185, 294, 6, WORN, 3);
    worn.spring(0, 12240);
    due.is("WORN 3: STROKE", worn.tuned(0, 0, 0, 1), 1);
    worn.spring(0, 12239);
    due.is("WORN 3, a litre less: STROKE", worn.tuned(0, 0, 0, 1), NONE);
    due.sentence("that pair that DRAWS (an HOUR) no more than a MONTH's SPRING");
    int[] ram = {50, 200, 100, 3};
    due.is("5, 9 DRAWS", hourly(ram, 5, 9, 3), 18600);
    best(new int[] {50, 200, 100, 3, 18600, 0, 5, 9, 2400});
    best(new int[] {50, 200, 100, 3, 18599, 0, 390, 2, 2250});
    due.is("70, 3 DRAWS", hourly(ram, 70, 3, 3), 15420);
    best(new int[] {50, 200, 100, 3, 15420, 1, 70, 3, 2056});
    RamBook x = Made.ram(50, 200, 100, 3);
    x.spring(0, 15419);
    due.is("a litre less: another pair", x.tuned(0, 0, 1, 0) == 70 && x.tuned(0, 0, 1, 1) == 3 ? 1 : 0, 0);
    // 205, 1 needs the least of all that lift
    best(new int[] {50, 200, 100, 3, 4626, 0, 205, 1, 514});
    best(new int[] {50, 200, 100, 3, 4625, 0, NONE, NONE, NONE});
  }

  // Two pairs that are as good as one another: the first of them is due.
  private static void tie(int[] row, int weight, int stroke) {
    long up = hourly(row, row[6], row[7], 2), waste = hourly(row, row[6], row[7], 1);
    long otherUp = hourly(row, weight, stroke, 2), otherWaste = hourly(row, weight, stroke, 1);
    boolean same = row[5] == 0 ? up == otherUp : waste * otherUp == otherWaste * up;
    due.is(weight + ", " + stroke + " is as good", same && hourly(row, weight, stroke, 3) <= row[4] ? 1 : 0, 1);
    best(row);
  }

  private static void tunedBest() {
    due.sentence("of several the least WEIGHT, then the least STROKE;");
    tie(new int[] {9, 532, 835, 7, 50740, 0, 5, 8, 420}, 15, 5);
    tie(new int[] {66, 283, 354, 6, 7815, 0, 5, 4, 600}, 5, 5);
    tie(new int[] {13, 772, 526, 3, 11549, 1, 90, 2, 90}, 270, 1);
    tie(new int[] {32, 784, 517, 8, 49239, 1, 20, 4, 552}, 20, 6);
    due.sentence("(UP above 0; WASTE by UP; held against others exactly);");
    // 3395 by 776 and 3596 by 744 are 4 both; 36081 by 10089 and 19623 by 5486 are the same in thousandths
    best(new int[] {12, 34, 844, 1, 6898, 1, 10, 5, 776});
    best(new int[] {37, 86, 700, 4, 47074, 1, 95, 4, 10089});
    // products beyond what an int can hold
    best(new int[] {164, 638, 31, 6, 1000000, 1, 5, 2, 9450});
    due.sentence("NONE, if none of them beats, with UP above 0.");
    RamBook dry = Made.ram(50, 200, 100, 3);
    dry.spring(0, 0);
    RamBook stalled = Made.ram(5, 6, 900, 1, WORN, 3, CHOKED, 3);
    // SPEED grows up to 34, and 50 is asked for
    RamBook weak = Made.ram(5, 1000, 900, 9);
    for (int aim = 0; aim <= 1; aim++) {
      for (int what = 0; what <= 2; what++) {
        String call = "tuned(0, 0, " + aim + ", " + what + ")";
        due.is("no water: " + call, dry.tuned(0, 0, aim, what), NONE);
        due.is("all STALL: " + call, stalled.tuned(0, 0, aim, what), NONE);
        due.is("UP is 0 by all: " + call, weak.tuned(0, 0, aim, what), NONE);
      }
    }
    due.sentence("TUNED: WEIGHT (what = 0), STROKE (1), UP an HOUR then (2); NONE. BAD.");
    RamBook x = Made.ram(50, 200, 100, 3);
    due.is("tuned(0, 11, 1, 2)", x.tuned(0, 11, 1, 2), 2056);
    int[][] bad = {{-1, 0, 0, 0}, {1, 0, 0, 0}, {0, -1, 0, 0}, {0, 12, 0, 0}, {0, 0, -1, 0}, {0, 0, 2, 0}, {0, 0, 0, -1}, {0, 0, 0, 3}};
    for (int[] b : bad) {
      due.is("tuned(" + b[0] + ", " + b[1] + ", " + b[2] + ", " + b[3] + ")", x.tuned(b[0], b[1], b[2], b[3]), BAD);
    }
    due.is("BAD ahead of NONE", dry.tuned(0, 0, 0, 3), BAD);
  }

  private static void tunes() {
    due.sentence("TUNES (6 at most) are pairs of WEIGHT and STROKE.");
    RamBook x = new RamBook();
    for (int k = 0; k < 6; k++) {
      due.is("tune number " + k, x.tune(60 + k, 4), k);
    }
    due.is("a seventh", x.tune(66, 4), FULL);
    due.is("count(1)", x.count(1), 6);
    x.ram(30, 150, 120, 4);
    due.is("the sixth", x.take(6), 1);
    due.is("its WEIGHT", x.about(0, WEIGHT), 65);
    due.sentence("A TUNE: its number. BAD: WEIGHTS 5 .. 400; FULL.");
    RamBook y = new RamBook();
    int[][] rows = {{4, 4, BAD}, {401, 4, BAD}, {60, 0, BAD}, {60, 10, BAD}, {5, 1, 0}, {400, 9, 1}, {6, 4, 2}, {399, 4, 3}};
    for (int[] r : rows) {
      due.is("tune(" + r[0] + ", " + r[1] + ")", y.tune(r[0], r[1]), r[2]);
    }
    y.tune(60, 4);
    y.tune(60, 4);
    due.is("full and bad", y.tune(4, 4), BAD);
    due.is("full", y.tune(5, 1), FULL);
    due.sentence("There are no TUNES: how many there were.");
    due.is("forget() of six", y.forget(), 6);
    due.is("count(1)", y.count(1), 0);
    due.is("forget() of none", y.forget(), 0);
    due.is("the next one's number", y.tune(60, 4), 0);
    due.is("forget() of one", y.forget(), 1);
    RamBook z = twins(2, 3, 1000000);
    side("three", z, 8, 2 * 2570);
    z.forget();
    side("none of them is left", z, 0, 0);
    due.is("none of them can be taken", z.take(1), BAD);
    z.tune(50, 4);
    due.is("the first is another", z.take(1), 1);
    due.is("its WEIGHT", z.about(0, WEIGHT), 50);
    due.is("the second is gone", z.take(2), BAD);
  }

  private static RamBook twins(int rams, int tunes, int water) {
    RamBook x = new RamBook();
    for (int i = 0; i < rams; i++) {
      x.ram(30, 150, 120, 4);
    }
    for (int k = 0; k < tunes; k++) {
      x.tune(60, 4);
    }
    x.spring(0, water);
    return x;
  }

  private static void side(String name, RamBook x, int number, int up) {
    due.is(name + ": side(0, 0)", x.side(0, 0), number);
    due.is(name + ": side(0, 1)", x.side(0, 1), up);
  }

  // With 60, 4 each of these rams DRAWS 26214, and lifts 2570.
  private static void sideBySide() {
    due.sentence("each RAM gets one of the TUNES, or stands still, so that all together DRAW the MONTH's SPRING at most");
    for (int n = 1; n <= 4; n++) {
      // n and 1 of them would find a litre too little; RAM 0 comes first
      int[] numbers = {0, 1, 8, 57, 400};
      side(n + " of 4, just enough", twins(4, 1, n * 26214), numbers[n], n * 2570);
      side(n + " of 4, a litre too little", twins(4, 1, n * 26214 - 1), numbers[n - 1], (n - 1) * 2570);
    }
    side("no water", twins(2, 2, 0), 0, 0);
    RamBook dries = twins(2, 1, 52428);
    side("two", dries, 8, 2 * 2570);
    dries.spring(0, 26213);
    side("none any more", dries, 0, 0);
    side("no RAMS", twins(0, 6, 1000000), 0, 0);
    side("no TUNES", twins(4, 0, 1000000), 0, 0);
    due.sentence("(STALLING ones may not be), and the most UP in all;");
    RamBook stalled = Made.ram(7, 100, 900, 4);
    stalled.ram(30, 150, 120, 4);
    stalled.tune(60, 4);
    stalled.spring(0, 1000000);
    due.is("RAM 0 STALLS", stalled.beat(0, 0), NONE);
    side("RAM 1 alone", stalled, 7, 2570);
    stalled.spring(0, 26214);
    side("RAM 1 alone, just enough", stalled, 7, 2570);
    stalled.spring(0, 26213);
    side("none, a litre too little", stalled, 0, 0);
    // the first tune lifts less than the second, and two of the first more than one of the second
    RamBook most = twins(2, 0, 65021);
    most.set(0, 3, 1);
    most.set(1, 3, 1);
    most.tune(60, 4);
    most.tune(400, 9);
    side("one of the greater", most, 2, 7453);
    most.spring(0, 65020);
    side("two of the lesser", most, 8, 2 * 514);
    due.sentence("of several that with the least number (digits by 7, RAM 0's the lowest: 0 stands still, k and 1 TUNE k).");
    side("the same TUNE six times", twins(4, 6, 1000000), 400, 4 * 2570);
    side("water for one of four", twins(4, 6, 26214), 1, 2570);
    RamBook last = twins(4, 5, 1000000);
    for (int ram = 0; ram < 4; ram++) {
      last.set(ram, 3, 1);
    }
    last.tune(400, 9);
    side("the greatest number", last, 2400, 4 * 7453);
    RamBook weak = Made.ram(5, 1000, 900, 9);
    weak.tune(5, 1);
    due.is("beats", weak.set(0, WEIGHT, 5) + weak.set(0, STROKE, 1) > 0 && weak.beat(0, 0) > 0 ? 1 : 0, 1);
    side("one that lifts nothing stands still", weak, 0, 0);
    due.sentence("SIDE BY SIDE: the number (what = 0), UP in all (1). BAD.");
    RamBook x = twins(1, 1, 26214);
    due.is("side(11, 0), with 20000 at first", x.side(11, 0), 0);
    int[][] bad = {{-1, 0}, {12, 0}, {0, -1}, {0, 2}};
    for (int[] b : bad) {
      due.is("side(" + b[0] + ", " + b[1] + ")", x.side(b[0], b[1]), BAD);
    }
  }

  private static void take() {
    due.sentence("(of those with digit 0 nothing is changed but that they do not run; others run): 1.");
    RamBook x = twins(2, 0, 1000000);
    x.tune(5, 1);
    x.tune(400, 9);
    x.set(0, WEIGHT, 77);
    x.set(0, AIR, 55);
    x.set(1, RUNS, 0);
    due.is("take(14)", x.take(14), 1);
    int[] still = {30, 150, 120, 4, 77, 4, 55, 0, 0, 0, 0, 0, 0};
    int[] runs = {30, 150, 120, 4, 400, 9, 100, 0, 0, 0, 0, 0, 1};
    for (int what = 0; what <= 12; what++) {
      due.is("about(0, " + what + ")", x.about(0, what), still[what]);
      due.is("about(1, " + what + ")", x.about(1, what), runs[what]);
    }
    due.is("take(0)", x.take(0), 1);
    due.is("RAM 1 stands still", x.about(1, RUNS), 0);
    due.is("with its TUNE", x.about(1, WEIGHT), 400);
    due.is("take(1)", x.take(1), 1);
    due.is("RAM 0 runs", x.about(0, RUNS), 1);
    due.is("with TUNE 0, WEIGHT", x.about(0, WEIGHT), 5);
    due.is("with TUNE 0, STROKE", x.about(0, STROKE), 1);
    due.sentence("BAD: a digit of no TUNE, more digits.");
    int[][] rows = {{-1, BAD}, {2, 1}, {3, BAD}, {6, BAD}, {14, 1}, {16, 1}, {17, BAD}, {21, BAD}, {22, BAD}, {48, BAD}, {49, BAD}, {50, BAD}, {343, BAD}};
    for (int[] r : rows) {
      due.is("take(" + r[0] + ")", x.take(r[0]), r[1]);
    }
    RamBook full = twins(4, 6, 0);
    due.is("the greatest number", full.take(2400), 1);
    due.is("a fifth digit", full.take(2401), BAD);
    due.is("no RAMS: take(0)", new RamBook().take(0), 1);
    due.is("no RAMS: take(1)", twins(0, 1, 0).take(1), BAD);
    due.is("no TUNES: take(0)", twins(1, 0, 0).take(0), 1);
    due.is("no TUNES: take(1)", twins(1, 0, 0).take(1), BAD);
  }

  // AIR that is lost tells in how many hours the ram beat.
  private static int beaten(RamBook x, int hours) {
    x.set(0, AIR, 100);
    x.hours(hours);
    return 100 - x.about(0, AIR);
  }

  private static void frost() {
    due.sentence("FROST of a MONTH: HOURS from 0 up to so many (0 .. 23; 0 at first) of each day");
    int[][] days = {{0, 24}, {1, 23}, {12, 12}, {22, 2}, {23, 1}};
    for (int[] d : days) {
      RamBook x = Made.plain(STROKE, 2);
      due.is("frost(0, " + d[0] + ")", x.frost(0, d[0]), 0);
      due.is("FROST " + d[0] + ", a day", beaten(x, 24), d[1]);
      due.is("FROST " + d[0] + ", the next day", beaten(x, 24), d[1]);
    }
    RamBook edge = Made.plain(STROKE, 2);
    edge.frost(0, 6);
    due.is("HOUR 0 to 5", beaten(edge, 6), 0);
    due.is("HOUR 6", beaten(edge, 1), 1);
    RamBook other = Made.plain(STROKE, 2, RUNS, 0);
    other.spring(1, 1000000);
    other.frost(1, 5);
    other.hours(719);
    other.set(0, RUNS, 1);
    due.is("the last HOUR of MONTH 0, and seven of MONTH 1", beaten(other, 8), 3);
    due.sentence("in which RAMS with a STROKE below 3 stand still.");
    int[][] strokes = {{1, 0, 1}, {2, 0, 1}, {3, 0, 24}, {9, 0, 24}, {2, 3, 1}};
    for (int[] s : strokes) {
      RamBook x = Made.plain(WEIGHT, 5, STROKE, s[0], WORN, s[1]);
      x.frost(0, 23);
      due.is("STROKE " + s[0] + ", WORN " + s[1], beaten(x, 24), s[2]);
    }
    due.sentence("FROST of a MONTH becomes v: what it was. BAD.");
    RamBook x = new RamBook();
    int[][] rows = {{0, 24, BAD}, {0, -1, BAD}, {-1, 5, BAD}, {12, 5, BAD}, {0, 23, 0}, {0, 0, 23}, {11, 1, 0}, {11, 0, 1}};
    for (int[] r : rows) {
      due.is("frost(" + r[0] + ", " + r[1] + ")", x.frost(r[0], r[1]), r[2]);
    }
  }

  private static void silence() {
    due.sentence("SILENCE: HOURS from .. up to (not with) another one (0 .. 24 each; 0, 0 at first) in which all do.");
    due.is("at first", beaten(Made.plain(), 24), 24);
    int[][] rows = {{0, 0, 24}, {0, 1, 23}, {0, 24, 0}, {5, 5, 24}, {5, 7, 22}, {23, 24, 23}, {24, 24, 24}, {0, 23, 1}, {1, 24, 1}};
    for (int[] r : rows) {
      RamBook x = Made.plain(STROKE, 9, WEIGHT, 5);
      due.is("silence(" + r[0] + ", " + r[1] + ")", x.silence(r[0], r[1]), 1);
      due.is("SILENCE " + r[0] + " to " + r[1], beaten(x, 24), r[2]);
      due.is("the next day, " + r[0] + " to " + r[1], beaten(x, 24), r[2]);
    }
    RamBook edge = Made.plain();
    edge.silence(5, 7);
    due.is("HOURS 0 to 4", beaten(edge, 5), 5);
    due.is("HOURS 5 and 6", beaten(edge, 2), 0);
    due.is("HOUR 7", beaten(edge, 1), 1);
    due.sentence("SILENCE becomes from .. to: 1. BAD: from above to.");
    int[][] bad = {{1, 0}, {24, 23}, {24, 0}, {-1, 5}, {-1, -1}, {0, 25}, {25, 25}, {5, -1}};
    RamBook x = Made.plain();
    for (int[] b : bad) {
      due.is("silence(" + b[0] + ", " + b[1] + ")", x.silence(b[0], b[1]), BAD);
    }
    due.is("nothing is changed", beaten(x, 24), 24);
  }

  public static void main(String[] args) {
    spring();
    tunedPairs();
    tunedBest();
    tunes();
    sideBySide();
    take();
    frost();
    silence();
    due.end();
  }
}
