/** Edges of the document's part 1 and of promises 1 to 7 and 30, sentence by sentence. */
public final class RamEdgesTest {
  private static final int BAD = -1, FULL = -3, NONE = -9;
  private static final int RISE = 1, BORE = 3, WEIGHT = 4, STROKE = 5, AIR = 6;
  private static final int WORN = 7, CHOKED = 8, LEAK = 9, KIND = 10, SNIFTER = 11, RUNS = 12;
  private static final Due due = new Due("RamEdgesTest");

  // ram() with one of its four numbers at its edges and one beyond them.
  private static void made(int at, int least, int most) {
    int[][] rows = {{least - 1, BAD}, {least, 0}, {most, 0}, {most + 1, BAD}};
    for (int[] row : rows) {
      int[] n = {30, 1000, 120, 4};
      n[at] = row[0];
      String call = "ram(" + n[0] + ", " + n[1] + ", " + n[2] + ", " + n[3] + ")";
      RamBook x = new RamBook();
      due.is(call, x.ram(n[0], n[1], n[2], n[3]), row[1]);
      due.is("count(0) after " + call, x.count(0), row[1] == BAD ? 0 : 1);
      due.is("about(0, " + at + ") after " + call, x.about(0, at), row[1] == BAD ? BAD : row[0]);
    }
  }

  // set() of one thing at its edges and one beyond them.
  private static void bounds(int what, int least, int most, int first) {
    RamBook x = Made.ram(30, 1000, 120, 4);
    String set = "set(0, " + what + ", ";
    due.is("about(0, " + what + ") at first", x.about(0, what), first);
    due.is(set + (least - 1) + ")", x.set(0, what, least - 1), BAD);
    due.is(set + (most + 1) + ")", x.set(0, what, most + 1), BAD);
    due.is("about(0, " + what + ") after refusals", x.about(0, what), first);
    due.is(set + least + ")", x.set(0, what, least), first);
    due.is(set + most + ")", x.set(0, what, most), least);
    due.is("about(0, " + what + ")", x.about(0, what), most);
  }

  private static void fourRams() {
    due.sentence("RAMS (4 at most) have FALL (5 ..");
    RamBook x = new RamBook();
    for (int i = 0; i < 4; i++) {
      due.is("ram number " + i, x.ram(30 + i, 150, 120, 4), i);
    }
    due.is("a fifth", x.ram(30, 150, 120, 4), FULL);
    due.is("count(0)", x.count(0), 4);
    due.is("FALL of the fourth", x.about(3, 0), 33);
    due.is("there is no ram 4", x.about(4, 0), BAD);
    RamBook low = new RamBook();
    due.is("FALL 4", low.ram(4, 150, 120, 4), BAD);
    due.is("FALL 5", low.ram(5, 150, 120, 4), 0);
    due.is("set FALL 4", low.set(0, 0, 4), BAD);
  }

  private static void numbersOfARam() {
    due.sentence("200; of the stream to the ram)");
    made(0, 5, 200);
    bounds(0, 5, 200, 30);
    due.sentence("RISE (above FALL, 1000 at most; from the ram to the tank)");
    made(1, 31, 1000);
    bounds(1, 31, 1000, 1000);
    RamBook x = new RamBook();
    due.is("RISE at the least FALL", x.ram(5, 5, 120, 4), BAD);
    due.is("RISE just above the least FALL", x.ram(5, 6, 120, 4), 0);
    due.is("RISE at the most FALL", x.ram(200, 200, 120, 4), BAD);
    due.is("RISE just above the most FALL", x.ram(200, 201, 120, 4), 1);
    due.is("RISE just below FALL", x.ram(30, 29, 120, 4), BAD);
    due.is("RISE far below FALL", x.ram(200, 6, 120, 4), BAD);
    due.sentence("LONG (20 .. 900; the drive pipe)");
    made(2, 20, 900);
    bounds(2, 20, 900, 120);
    due.sentence("BORE (1 .. 9)");
    made(3, 1, 9);
    bounds(BORE, 1, 9, 4);
    due.sentence("WEIGHT (5 .. 400; on the valve; 60 at first)");
    bounds(WEIGHT, 5, 400, 60);
    due.sentence("STROKE (1 .. 9; 4 at first)");
    bounds(STROKE, 1, 9, 4);
    due.sentence("AIR (0 .. 100; in the bell; 100 at first)");
    bounds(AIR, 0, 100, 100);
    due.sentence("what ails them, each 0 .. 3 (0 at first): WORN, CHOKED, LEAK.");
    bounds(WORN, 0, 3, 0);
    bounds(CHOKED, 0, 3, 0);
    bounds(LEAK, 0, 3, 0);
  }

  private static void swing(String name, RamBook x, int tick, int speed, int waste) {
    due.is(name + ": tick", x.beat(0, 0), tick);
    due.is(name + ": SPEED", x.beat(0, 1), speed);
    due.is(name + ": WASTE", x.beat(0, 2), waste);
  }

  private static void ticks() {
    due.sentence("A BEAT goes by ticks from rest, SPEED 0: at each tick SPEED becomes GAIN more");
    // the first tick has GAIN alone, whatever drags
    swing("from rest", Made.ram(30, 150, 120, 4, WEIGHT, 10, CHOKED, 3), 1, 50, 8);
    // as they are made: 50, 99, 147 with WASTE 2, 3, 5; 44, 87, 129 with WASTE 15, 31, 46
    swing("the least RAM", Made.ram(5, 6, 20, 1), 3, 147, 10);
    due.is("the least RAM: UP", Made.ram(5, 6, 20, 1).beat(0, 3), 5);
    swing("the greatest RAM", Made.ram(200, 1000, 900, 9), 3, 129, 92);
    due.is("the greatest RAM: UP", Made.ram(200, 1000, 900, 9).beat(0, 3), 11);
    due.sentence("less SPEED (as it was) times (3 and CHOKED) by 100, rounded down");
    // 33 times 3 is 99: nothing; 34 times 3 is 102: 1
    swing("99 by 100", Made.ram(33, 300, 200, 1, WEIGHT, 87, STROKE, 1), 2, 66, 0);
    swing("102 by 100", Made.ram(34, 300, 200, 1, WEIGHT, 87, STROKE, 1), 2, 67, 0);
    // 16 times 6 is 96, 17 times 6 is 102
    swing("CHOKED, 96 by 100", Made.ram(16, 300, 200, 1, WEIGHT, 20, STROKE, 1, CHOKED, 3), 2, 32, 0);
    swing("CHOKED, 102 by 100", Made.ram(17, 300, 200, 1, WEIGHT, 20, STROKE, 1, CHOKED, 3), 2, 33, 0);
    // 50, 99, 147: the third is dragged by 99, not by 147 or 149
    swing("as it was", Made.ram(30, 300, 120, 1, WEIGHT, 200, STROKE, 1), 3, 147, 1);
    due.sentence("GAIN is 200 FALL by LONG, rounded down");
    int[][] gains = {{30, 120, 50}, {30, 121, 49}, {30, 122, 49}, {30, 123, 48}, {200, 20, 2000}, {199, 900, 44}};
    for (int[] g : gains) {
      RamBook x = Made.ram(g[0], 300, g[1], 1, WEIGHT, 5, STROKE, 1);
      due.is("FALL " + g[0] + ", LONG " + g[1] + ": SPEED", x.beat(0, 1), g[2]);
    }
    // the least GAIN is 1: SPEED 16 has 256 by 50
    due.is("FALL 5, LONG 900: tick", Made.ram(5, 300, 900, 1, WEIGHT, 5, STROKE, 1).beat(0, 0), 16);
    due.sentence("WASTE: SPEED times BORE times (STROKE and WORN) by 100, rounded down, is more.");
    swing("99 by 100", Made.ram(99, 300, 200, 1, WEIGHT, 5, STROKE, 1), 1, 99, 0);
    swing("100 by 100", Made.ram(60, 300, 120, 1, WEIGHT, 5, STROKE, 1), 1, 100, 1);
    swing("at each tick, not of all", Made.ram(30, 300, 120, 1, WEIGHT, 200, STROKE, 1), 3, 147, 1);
    swing("WORN, too", Made.ram(30, 300, 120, 1, WEIGHT, 5, STROKE, 1, WORN, 1), 1, 50, 1);
  }

  private static void shutting() {
    due.sentence("The valve SHUTS at the first tick of 1 .. 400 with SPEED times SPEED by 50, rounded down,");
    // 49 times 49 is 2401, by 50: 48
    due.is("48", Made.ram(98, 300, 400, 1, WEIGHT, 48, STROKE, 1).beat(0, 0), 1);
    due.is("49", Made.ram(98, 300, 400, 1, WEIGHT, 49, STROKE, 1).beat(0, 0), 2);
    due.is("the most of all, at once", Made.ram(200, 201, 20, 9, WEIGHT, 400, STROKE, 9, WORN, 3).beat(0, 0), 1);
    // GAIN 14 grows up to SPEED 467 at tick 108, the longest that there is
    RamBook slow = Made.ram(5, 100, 67, 1, WEIGHT, 363, STROKE, 9, WORN, 3);
    due.is("the last of all: tick", slow.beat(0, 0), 108);
    due.is("the last of all: SPEED", slow.beat(0, 1), 467);
    due.is("the last of all: SPAN", slow.beat(0, 4), 112);
    due.sentence("of WEIGHT times (STROKE and WORN), or more.");
    due.is("50 of 50", Made.plain(STROKE, 1, WEIGHT, 50).beat(0, 0), 1);
    due.is("50 of 51", Made.plain(STROKE, 1, WEIGHT, 51).beat(0, 0), 2);
    due.is("50 of 25 times 2", Made.plain(STROKE, 1, WORN, 1, WEIGHT, 25).beat(0, 0), 1);
    due.is("50 of 26 times 2", Made.plain(STROKE, 1, WORN, 1, WEIGHT, 26).beat(0, 0), 2);
  }

  private static void stalling(String name, RamBook x, int waste) {
    for (int what = 0; what <= 4; what++) {
      due.is(name + ": beat(0, " + what + ")", x.beat(0, what), NONE);
    }
    due.is(name + ": BEATS", x.hourly(0, 0), 0);
    due.is(name + ": WASTE", x.hourly(0, 1), waste);
    due.is(name + ": UP", x.hourly(0, 2), 0);
    due.is(name + ": DRAWS", x.hourly(0, 3), waste);
  }

  private static void stalls() {
    due.sentence("If there is none, or SPEED does not grow at a tick ahead of it, it STALLS (no BEAT).");
    // GAIN 1 grows up to SPEED 34 at tick 34: 23
    swing("shuts as it grows for the last time", Made.ram(7, 100, 900, 1, STROKE, 1, WEIGHT, 23), 34, 34, 0);
    stalling("one more", Made.ram(7, 100, 900, 1, STROKE, 1, WEIGHT, 24), 25);
    // 364 times 12 is 4368, SPEED 467 has 4361
    stalling("the slow one, heavier", Made.ram(5, 100, 67, 1, WEIGHT, 364, STROKE, 9, WORN, 3), 216);
    stalling("the slowest, light", Made.ram(5, 6, 900, 1, WEIGHT, 5, STROKE, 1, WORN, 3, CHOKED, 3), 72);
    due.sentence("(none, if it STALLS: then its WASTE is 36 times BORE times STROKE and WORN times FALL by 10, rounded down)");
    // 36 times 8 is 288, twice as much 576, thrice 864
    stalling("28.8", Made.ram(8, 100, 900, 1, STROKE, 1, WEIGHT, 400), 28);
    stalling("57.6", Made.ram(8, 100, 900, 1, STROKE, 1, WORN, 1, WEIGHT, 400), 57);
    stalling("86.4", Made.ram(8, 100, 900, 3, STROKE, 1, WEIGHT, 400), 86);
    stalling("the most", Made.ram(8, 100, 900, 9, STROKE, 9, WORN, 3, WEIGHT, 400), 3110);
    // one ram to and fro, asked for BEATS alone: SPAN 38, and none
    RamBook turn = Made.ram(7, 100, 900, 1, STROKE, 1, WEIGHT, 23);
    due.is("BEATS", turn.hourly(0, 0), 94);
    turn.set(0, WEIGHT, 24);
    due.is("BEATS, one heavier", turn.hourly(0, 0), 0);
    turn.set(0, WEIGHT, 23);
    due.is("BEATS, as before", turn.hourly(0, 0), 94);
    due.sentence("0 the tick at which it SHUTS (NONE: it STALLS), 1 SPEED then, 2 WASTE, 3 UP, 4 SPAN; NONE of 1 .. 4 likewise. BAD.");
    RamBook x = Made.ram(8, 100, 900, 1, STROKE, 1, WEIGHT, 400);
    stalling("it STALLS", x, 28);
    x.set(0, WEIGHT, 5);
    due.is("it beats again", x.beat(0, 0), 16);
    for (int ram : new int[] {-1, 1, 4}) {
      due.is("beat(" + ram + ", 0)", x.beat(ram, 0), BAD);
    }
    due.is("beat(0, 5)", x.beat(0, 5), BAD);
    due.is("beat(0, -1)", x.beat(0, -1), BAD);
    x.set(0, WEIGHT, 400);
    due.is("BAD, though it STALLS", x.beat(0, 5), BAD);
  }

  private static void span() {
    due.sentence("SPAN of a BEAT: that tick, and 4 more, and 1 for each 200 of RISE, rounded down.");
    int[][] rises = {{31, 7}, {199, 7}, {200, 8}, {399, 8}, {400, 9}, {999, 11}, {1000, 12}};
    for (int[] r : rises) {
      due.is("RISE " + r[0], Made.plain(RISE, r[0]).beat(0, 4), r[1]);
    }
    due.sentence("An HOUR has 3600 by SPAN BEATS, rounded down");
    due.is("the least SPAN, 5", Made.ram(198, 199, 20, 1).hourly(0, 0), 720);
    due.is("SPAN 7", Made.plain().hourly(0, 0), 514);
    due.is("SPAN 8", Made.plain(RISE, 200).hourly(0, 0), 450);
    due.is("SPAN 11", Made.plain(RISE, 999).hourly(0, 0), 327);
    RamBook slow = Made.ram(5, 1000, 67, 1, WEIGHT, 363, STROKE, 9, WORN, 3);
    due.is("SPAN 117, the most", slow.hourly(0, 0), 30);
  }

  private static void works() {
    due.sentence("FLAP 40, and AIR by 4, rounded down, less 3 for each of WORN (1).");
    int[][] flaps = {{0, 0, 40}, {3, 0, 40}, {4, 0, 41}, {99, 0, 64}, {100, 0, 65}, {0, 3, 31}, {100, 3, 56}};
    for (int[] f : flaps) {
      due.is("AIR " + f[0] + ", WORN " + f[1], Made.plain(AIR, f[0], WORN, f[1]).work(0, 0), f[2]);
    }
    due.sentence("GUIDED up, and 8, but 80 at most (10).");
    due.is("the most that FLAP can give", Made.plain().work(1, 0), 73);
    due.is("the least", Made.plain(AIR, 0, WORN, 3).work(1, 0), 39);
    due.sentence("SPRUNG up, and a tenth of it, rounded down, but 85 at most, less 2 for each of CHOKED (100).");
    due.is("the most that GUIDED can give", Made.plain().work(2, 0), 80);
    due.is("a tenth of 49", Made.plain(AIR, 4).work(2, 0), 53);
    due.is("a tenth of 50", Made.plain(AIR, 8).work(2, 0), 55);
    due.is("CHOKED 1", Made.plain(CHOKED, 1).work(2, 0), 78);
    due.is("the least", Made.plain(AIR, 0, WORN, 3, CHOKED, 3).work(2, 0), 36);
    due.sentence("VALVES are of KINDS over one another: 0 FLAP (at first), 1 GUIDED, 2 SPRUNG");
    bounds(KIND, 0, 2, 0);
    due.sentence("WORK of a RAM by a KIND. BAD.");
    RamBook x = Made.plain();
    for (int kind : new int[] {-1, 3}) {
      due.is("work(" + kind + ", 0)", x.work(kind, 0), BAD);
    }
    for (int ram : new int[] {-1, 1, 4}) {
      due.is("work(0, " + ram + ")", x.work(0, ram), BAD);
    }
  }

  private static void traces() {
    due.sentence("(numbers in brackets come to THE TRACE as often as work() asks that body;");
    int[] worth = {1, 11, 111};
    for (int kind = 0; kind <= 2; kind++) {
      RamBook x = Made.plain();
      for (int i = 1; i <= 400; i++) {
        x.work(kind, 0);
      }
      due.is("400 times by KIND " + kind, x.trace(), 400L * worth[kind]);
    }
    due.sentence("`long trace()`: THE TRACE.");
    RamBook x = Made.plain(KIND, 2);
    due.is("of a new object", x.trace(), 0);
    x.work(3, 0);
    x.work(-1, 0);
    x.work(2, 1);
    x.beat(0, 3);
    x.hourly(0, 2);
    x.hours(1);
    due.is("refused calls and others bring nothing", x.trace(), 0);
  }

  // WASTE 20 by one tick: UP is 390 by RISE.
  private static int upTo(int rise) {
    return Made.ram(30, rise, 120, 8, WEIGHT, 10, STROKE, 5).beat(0, 3);
  }

  // WASTE 40 by one tick: 780 by RISE, less what leaks.
  private static int leaky(int rise, int leak) {
    return Made.ram(30, rise, 120, 9, WEIGHT, 5, STROKE, 9, LEAK, leak).beat(0, 3);
  }

  private static void ups() {
    due.sentence("UP of a BEAT: WASTE times FALL times WORK by (100 RISE), rounded down");
    due.is("390 by 390", upTo(390), 1);
    due.is("390 by 391", upTo(391), 0);
    due.is("390 by 195", upTo(195), 2);
    due.is("390 by 196", upTo(196), 1);
    due.sentence("less LEAK twentieths of it, rounded up to take");
    int[][] leaks = {{39, 20, 19, 18, 17}, {37, 21, 19, 18, 17}, {780, 1, 0, 0, 0}, {781, 0, 0, 0, 0}};
    for (int[] l : leaks) {
      for (int leak = 0; leak <= 3; leak++) {
        due.is(l[1] + " with LEAK " + leak, leaky(l[0], leak), l[1 + leak]);
      }
    }
    due.sentence("0, if SPEED as it SHUTS is below RISE by 20, rounded down.");
    // SPEED 49, WASTE 39: 39 times 98 times 65 by 99900 is 2
    due.is("49 of 999 by 20", Made.ram(98, 999, 400, 9, WEIGHT, 5, STROKE, 9).beat(0, 3), 2);
    due.is("49 of 1000 by 20", Made.ram(98, 1000, 400, 9, WEIGHT, 5, STROKE, 9).beat(0, 3), 0);
    due.sentence("It DRAWS WASTE and UP.");
    due.is("with UP", Made.ram(98, 999, 400, 9, WEIGHT, 5, STROKE, 9).hourly(0, 3), 400 * (39 + 2));
    due.is("without", Made.ram(98, 1000, 400, 9, WEIGHT, 5, STROKE, 9).hourly(0, 3), 360 * 39);
  }

  private static int airAfter(RamBook x) {
    x.hours(1);
    return x.about(0, AIR);
  }

  private static void air() {
    due.sentence("After each HOUR that it beat AIR is lost: 1, and 1 more for each of LEAK, 0 at least;");
    int[][] rows = {{100, 0, 99}, {1, 0, 0}, {0, 0, 0}, {100, 3, 96}, {5, 3, 1}, {4, 3, 0}, {3, 3, 0}, {0, 3, 0}, {2, 1, 0}};
    for (int[] r : rows) {
      due.is("AIR " + r[0] + ", LEAK " + r[1], airAfter(Made.plain(AIR, r[0], LEAK, r[1])), r[2]);
    }
    due.is("off", airAfter(Made.plain(RUNS, 0)), 100);
    due.is("STALLS", airAfter(Made.ram(7, 100, 900, 1)), 100);
    RamBook dry = Made.plain();
    dry.spring(0, 0);
    due.is("no water", airAfter(dry), 100);
    RamBook silent = Made.plain();
    silent.silence(0, 1);
    due.is("SILENCE", airAfter(silent), 100);
    RamBook frozen = Made.plain(STROKE, 2);
    frozen.frost(0, 1);
    due.is("FROST", airAfter(frozen), 100);
    due.sentence("a SNIFTER (is, or is not; not at first) gives 1 back (100 at most).");
    bounds(SNIFTER, 0, 1, 0);
    int[][] given = {{100, 0, 100}, {99, 0, 99}, {1, 0, 1}, {0, 0, 1}, {100, 3, 97}, {4, 3, 1}, {2, 3, 1}, {0, 3, 1}};
    for (int[] g : given) {
      due.is("SNIFTER, AIR " + g[0] + ", LEAK " + g[1], airAfter(Made.plain(SNIFTER, 1, AIR, g[0], LEAK, g[1])), g[2]);
    }
    due.is("nothing back while off", airAfter(Made.plain(SNIFTER, 1, AIR, 50, RUNS, 0)), 50);
  }

  private static void newObject() {
    due.sentence("No RAMS, an empty TANK.");
    RamBook x = new RamBook();
    due.is("RAMS", x.count(0), 0);
    due.is("THE TANK", x.book(5), 0);
    for (int ram = 0; ram < 4; ram++) {
      due.is("about(" + ram + ", 0)", x.about(ram, 0), BAD);
      due.is("set(" + ram + ", 4, 60)", x.set(ram, 4, 60), BAD);
      due.is("hourly(" + ram + ", 0)", x.hourly(ram, 0), BAD);
    }
    due.is("an hour without RAMS", x.hours(1), 0);
    due.is("still empty", x.book(5), 0);
  }

  private static void calls() {
    due.sentence("A RAM: its number. BAD; FULL.");
    RamBook x = new RamBook();
    due.is("refused", x.ram(30, 30, 120, 4), BAD);
    due.is("a refused one takes no number", x.ram(30, 150, 120, 4), 0);
    x.ram(30, 150, 120, 4);
    x.ram(30, 150, 120, 4);
    x.ram(30, 150, 120, 4);
    due.is("full", x.ram(5, 6, 20, 1), FULL);
    due.is("full and bad", x.ram(5, 5, 20, 1), BAD);
    due.is("full and bad by the last number", x.ram(5, 6, 20, 10), BAD);
    due.sentence("whether it has a SNIFTER, 12 whether it runs becomes v: what it was. BAD: RISE not above FALL, too.");
    bounds(RUNS, 0, 1, 1);
    RamBook y = Made.plain();
    due.is("FALL at RISE", y.set(0, 0, 150), BAD);
    due.is("FALL just above RISE", y.set(0, 0, 151), BAD);
    due.is("FALL far above RISE", y.set(0, 0, 200), BAD);
    due.is("FALL just below RISE", y.set(0, 0, 149), 30);
    due.is("RISE at FALL", y.set(0, RISE, 149), BAD);
    due.is("RISE below FALL", y.set(0, RISE, 31), BAD);
    due.is("RISE as it is", y.set(0, RISE, 150), 150);
    for (int what : new int[] {-1, 13}) {
      due.is("set(0, " + what + ", 1)", y.set(0, what, 1), BAD);
    }
    for (int ram : new int[] {-1, 1}) {
      due.is("set(" + ram + ", 4, 60)", y.set(ram, 4, 60), BAD);
    }
    due.sentence("Of a RAM: as set() tells it. BAD.");
    due.is("about(0, 0)", y.about(0, 0), 149);
    due.is("about(0, 12)", y.about(0, 12), 1);
    for (int what : new int[] {-1, 13}) {
      due.is("about(0, " + what + ")", y.about(0, what), BAD);
    }
    for (int ram : new int[] {-1, 1}) {
      due.is("about(" + ram + ", 0)", y.about(ram, 0), BAD);
    }
    due.sentence("Of an HOUR: BEATS (what = 0), WASTE (1), UP (2), what it DRAWS (3). BAD.");
    due.is("hourly(0, 3)", Made.plain().hourly(0, 3), 26214);
    for (int what : new int[] {-1, 4}) {
      due.is("hourly(0, " + what + ")", y.hourly(0, what), BAD);
    }
    for (int ram : new int[] {-1, 1}) {
      due.is("hourly(" + ram + ", 0)", y.hourly(ram, 0), BAD);
    }
  }

  public static void main(String[] args) {
    fourRams();
    numbersOfARam();
    ticks();
    shutting();
    stalls();
    span();
    works();
    traces();
    ups();
    air();
    newObject();
    calls();
    due.end();
  }
}
