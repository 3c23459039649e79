/** Promises 1 to 7 and 30: a new object, rams, their work, beats and hours, the trace. */
public final class RamsTest {
  private static final int BAD = -1, FULL = -3, NONE = -9;
  private static final Due due = new Due("RamsTest");

  private static void newObject() {
    RamBook x = new RamBook();
    for (int what = 0; what <= 7; what++) {
      due.is("new: count(" + what + ")", x.count(what), 0);
    }
    for (int what = 0; what <= 10; what++) {
      due.is("new: book(" + what + ")", x.book(what), 0);
    }
    due.is("new: trace()", x.trace(), 0);
    due.is("new: about(0, 0)", x.about(0, 0), BAD);
    due.is("new: tank(0, 50000)", x.tank(0, 50000), 50000);
    due.is("new: tank(1, 0)", x.tank(1, 0), 0);
    for (int month = 0; month < 12; month++) {
      due.is("new: spring(" + month + ", 1)", x.spring(month, 1), 20000);
      due.is("new: frost(" + month + ", 1)", x.frost(month, 1), 0);
    }
    due.is("new: tolerance(0, 0)", x.tolerance(0, 0), 20);
    due.is("new: tolerance(1, 0)", x.tolerance(1, 0), 5);
    for (int farm = 0; farm < 5; farm++) {
      due.is("new: right(" + farm + ", 12)", x.right(farm, 12), 0);
    }
    RamBook other = new RamBook();
    x.ram(30, 150, 120, 4);
    due.is("another object's count(0)", other.count(0), 0);
  }

  private static void ram() {
    RamBook x = new RamBook();
    int[][] bad = {{4, 150, 120, 4}, {201, 1000, 120, 4}, {30, 30, 120, 4}, {30, 29, 120, 4}, {30, 1001, 120, 4},
        {30, 150, 19, 4}, {30, 150, 901, 4}, {30, 150, 120, 0}, {30, 150, 120, 10},
        {Integer.MIN_VALUE, 150, 120, 4}, {30, Integer.MAX_VALUE, 120, 4}, {30, 150, -120, 4}};
    for (int[] b : bad) {
      due.is("ram(" + b[0] + ", " + b[1] + ", " + b[2] + ", " + b[3] + ")", x.ram(b[0], b[1], b[2], b[3]), BAD);
    }
    due.is("count(0) after refusals", x.count(0), 0);
    due.is("ram(5, 6, 20, 1)", x.ram(5, 6, 20, 1), 0);
    due.is("ram(200, 1000, 900, 9)", x.ram(200, 1000, 900, 9), 1);
    due.is("ram(200, 201, 20, 1)", x.ram(200, 201, 20, 1), 2);
    due.is("ram(30, 150, 120, 4)", x.ram(30, 150, 120, 4), 3);
    due.is("a fifth", x.ram(30, 150, 120, 4), FULL);
    due.is("BAD ahead of FULL", x.ram(4, 150, 120, 4), BAD);
    due.is("count(0)", x.count(0), 4);
    int[] first = {30, 150, 120, 4, 60, 4, 100, 0, 0, 0, 0, 0, 1};
    for (int what = 0; what < first.length; what++) {
      due.is("about(3, " + what + ")", x.about(3, what), first[what]);
    }
  }

  private static void setAndAbout() {
    RamBook x = new RamBook();
    x.ram(30, 150, 120, 4);
    x.ram(40, 160, 80, 5);
    int[] was = {30, 150, 120, 4, 60, 4, 100, 0, 0, 0, 0, 0, 1};
    int[] least = {5, 31, 20, 1, 5, 1, 0, 0, 0, 0, 0, 0, 0};
    int[] most = {149, 1000, 900, 9, 400, 9, 100, 3, 3, 3, 2, 1, 1};
    for (int what = 0; what <= 12; what++) {
      String call = "set(0, " + what + ", ";
      due.is(call + (least[what] - 1) + ")", x.set(0, what, least[what] - 1), BAD);
      due.is(call + (most[what] + 1) + ")", x.set(0, what, most[what] + 1), BAD);
      due.is(call + "far off)", x.set(0, what, Integer.MIN_VALUE), BAD);
      due.is("about(0, " + what + ") after refusals", x.about(0, what), was[what]);
      due.is(call + least[what] + ")", x.set(0, what, least[what]), was[what]);
      due.is(call + most[what] + ")", x.set(0, what, most[what]), least[what]);
      due.is("about(0, " + what + ")", x.about(0, what), most[what]);
      due.is(call + was[what] + ")", x.set(0, what, was[what]), most[what]);
    }
    due.is("the other ram's FALL", x.about(1, 0), 40);
    x.set(0, 1, 1000);
    due.is("FALL 200", x.set(0, 0, 200), 30);
    due.is("FALL 201", x.set(0, 0, 201), BAD);
    due.is("RISE at FALL", x.set(0, 1, 200), BAD);
    due.is("RISE just above", x.set(0, 1, 201), 1000);
    due.is("FALL at RISE", x.set(0, 0, 201), BAD);
    for (int ram : new int[] {-1, 2, 4, Integer.MAX_VALUE}) {
      due.is("set of ram " + ram, x.set(ram, 4, 60), BAD);
      due.is("about of ram " + ram, x.about(ram, 4), BAD);
    }
    for (int what : new int[] {-1, 13, Integer.MIN_VALUE}) {
      due.is("set of " + what, x.set(0, what, 1), BAD);
      due.is("about of " + what, x.about(0, what), BAD);
    }
  }

  private static void workAndTrace() {
    RamBook x = new RamBook();
    x.ram(30, 150, 120, 4);
    x.set(0, 10, 2);
    due.is("FLAP by a SPRUNG ram", x.work(0, 0), 65);
    due.is("trace of FLAP", x.trace(), 1);
    due.is("GUIDED", x.work(1, 0), 73);
    due.is("trace of GUIDED", x.trace(), 12);
    due.is("SPRUNG", x.work(2, 0), 80);
    due.is("trace of SPRUNG", x.trace(), 123);
    x.set(0, 6, 99);
    due.is("AIR 99", x.work(0, 0), 64);
    x.set(0, 6, 3);
    due.is("AIR 3, FLAP", x.work(0, 0), 40);
    due.is("AIR 3, GUIDED", x.work(1, 0), 48);
    due.is("AIR 3, SPRUNG", x.work(2, 0), 52);
    x.set(0, 7, 3);
    x.set(0, 8, 2);
    x.set(0, 9, 3);
    due.is("WORN 3, FLAP", x.work(0, 0), 31);
    due.is("WORN 3, GUIDED", x.work(1, 0), 39);
    due.is("WORN 3, CHOKED 2, SPRUNG", x.work(2, 0), 38);
    due.is("trace", x.trace(), 123 + 1 + 123 + 123);
    due.is("work(3, 0)", x.work(3, 0), BAD);
    due.is("work(-1, 0)", x.work(-1, 0), BAD);
    due.is("work(0, 1)", x.work(0, 1), BAD);
    due.is("work(2, -1)", x.work(2, -1), BAD);
    x.beat(0, 3);
    x.hourly(0, 3);
    x.tuned(0, 0, 0, 0);
    x.side(0, 0);
    x.ails(0, 0);
    x.hours(5);
    due.is("trace, but for work()", x.trace(), 370);
  }

  private static void row(RamBook x, String name, int[] beat, int[] hour) {
    for (int what = 0; what < 5; what++) {
      due.is(name + ": beat(0, " + what + ")", x.beat(0, what), beat == null ? NONE : beat[what]);
    }
    for (int what = 0; what < 4; what++) {
      due.is(name + ": hourly(0, " + what + ")", x.hourly(0, what), hour[what]);
    }
  }

  private static void beats() {
    RamBook x = new RamBook();
    x.ram(30, 150, 120, 4);
    // GAIN 50: SPEED 50, 99, 147; WASTE 8, 15, 23
    row(x, "as made", new int[] {3, 147, 46, 5, 7}, new int[] {514, 23644, 2570, 26214});
    // opening 5, weight 60: 300 at SPEED 123; WASTE 10, 19, 29; WORK 62
    x.set(0, 7, 1);
    row(x, "WORN", new int[] {3, 147, 58, 7, 7}, new int[] {514, 29812, 3598, 33410});
    x.set(0, 7, 0);
    // drag 6: SPEED 50, 97, 142
    x.set(0, 8, 3);
    row(x, "CHOKED", new int[] {3, 142, 45, 5, 7}, new int[] {514, 23130, 2570, 25700});
    x.set(0, 8, 0);
    // 5 less 3 twentieths, 1 taken
    x.set(0, 9, 3);
    row(x, "LEAK", new int[] {3, 147, 46, 4, 7}, new int[] {514, 23644, 2056, 25700});
    x.set(0, 9, 0);
    x.set(0, 6, 0);
    // 46 * 30 * 40 by 15000
    row(x, "no AIR", new int[] {3, 147, 46, 3, 7}, new int[] {514, 23644, 1542, 25186});
    x.set(0, 12, 0);
    x.set(0, 11, 1);
    row(x, "off, with a SNIFTER", new int[] {3, 147, 46, 3, 7}, new int[] {514, 23644, 1542, 25186});
    x.set(0, 1, 199);
    due.is("SPAN at RISE 199", x.beat(0, 4), 7);
    x.set(0, 1, 200);
    due.is("SPAN at RISE 200", x.beat(0, 4), 8);
    x.set(0, 1, 1000);
    due.is("SPAN at RISE 1000", x.beat(0, 4), 12);
  }

  private static void shutEdge() {
    RamBook x = new RamBook();
    // GAIN 50: the first tick has 2500 by 50, just 50
    x.ram(30, 150, 120, 9);
    x.set(0, 5, 1);
    x.set(0, 4, 50);
    due.is("shuts at just as much", x.beat(0, 0), 1);
    x.set(0, 4, 51);
    due.is("shuts not below", x.beat(0, 0), 2);
    x.set(0, 5, 9);
    x.set(0, 4, 5);
    due.is("45 at STROKE 9", x.beat(0, 0), 1);
    x.set(0, 4, 6);
    due.is("54 at STROKE 9", x.beat(0, 0), 2);
  }

  private static void slowWater() {
    RamBook x = new RamBook();
    // GAIN 44; shuts at the first tick; WASTE 44 * 9 * 7 by 100
    x.ram(200, 899, 900, 9);
    x.set(0, 4, 5);
    x.set(0, 5, 7);
    row(x, "SPEED 44 to RISE 899", new int[] {1, 44, 27, 3, 9}, new int[] {400, 10800, 1200, 12000});
    x.set(0, 1, 900);
    row(x, "SPEED 44 to RISE 900", new int[] {1, 44, 27, 0, 9}, new int[] {400, 10800, 0, 10800});
  }

  private static void stalls() {
    RamBook x = new RamBook();
    // GAIN 1 grows to SPEED 34 at tick 34: 34 * 34 by 50 is 23
    x.ram(7, 100, 900, 1);
    x.set(0, 5, 1);
    x.set(0, 4, 23);
    due.is("shuts at the last growth", x.beat(0, 0), 34);
    due.is("SPEED of it", x.beat(0, 1), 34);
    x.set(0, 4, 24);
    row(x, "stalls", null, new int[] {0, 25, 0, 25});
    x.set(0, 7, 3);
    // 36 * 4 * 7 by 10
    row(x, "stalls, WORN", null, new int[] {0, 100, 0, 100});
    x.set(0, 5, 9);
    x.set(0, 3, 4);
    // 36 * 4 * 12 * 7 by 10
    row(x, "stalls, wide", null, new int[] {0, 1209, 0, 1209});
    due.is("beat(0, 5)", x.beat(0, 5), BAD);
    due.is("beat(0, -1)", x.beat(0, -1), BAD);
    due.is("beat(1, 0)", x.beat(1, 0), BAD);
    due.is("beat(-1, 0)", x.beat(-1, 0), BAD);
    due.is("hourly(0, 4)", x.hourly(0, 4), BAD);
    due.is("hourly(0, -1)", x.hourly(0, -1), BAD);
    due.is("hourly(1, 0)", x.hourly(1, 0), BAD);
    due.is("hourly(-1, 0)", x.hourly(-1, 0), BAD);
  }

  public static void main(String[] args) {
    newObject();
    ram();
    setAndAbout();
    workAndTrace();
    beats();
    shutEdge();
    slowWater();
    stalls();
    due.end();
  }
}
