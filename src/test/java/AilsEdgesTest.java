/** Edges of the document's part 4 and of promises 23 to 29, sentence by sentence. */
public final class AilsEdgesTest {
  private static final int BAD = -1, FULL = -3, NONE = -9;
  private static final int AIR = 6, WORN = 7, CHOKED = 8, LEAK = 9;
  private static final Due due = new Due("AilsEdgesTest");

  private static void readings() {
    due.sentence("READINGS (12 at most) of a RAM: BEATS an HOUR, UP an HOUR (0 .. 1000000 each), one may be MISSING.");
    RamBook x = Made.plain();
    int[][] rows = {{0, 0, 1}, {1000000, 1000000, 2}, {0, NONE, 3}, {1000000, NONE, 4}, {NONE, 0, 5}, {NONE, 1000000, 6},
        {-1, 0, BAD}, {1000001, 0, BAD}, {0, -1, BAD}, {0, 1000001, BAD}, {NONE, -1, BAD}, {NONE, 1000001, BAD},
        {-1, NONE, BAD}, {1000001, NONE, BAD}, {-8, 0, BAD}, {-10, 0, BAD}, {0, -8, BAD}, {0, -10, BAD}};
    for (int[] r : rows) {
      due.is("read(0, " + r[0] + ", " + r[1] + ")", x.read(0, r[0], r[1]), r[2]);
    }
    due.is("count(3) after refusals", x.count(3), 6);
    for (int i = 7; i <= 12; i++) {
      due.is("number " + i, x.read(0, 514, 2570), i);
    }
    due.is("a thirteenth", x.read(0, 514, 2570), FULL);
    due.is("count(3)", x.count(3), 12);
    due.sentence("A READING of a RAM (NONE: MISSING): how many there are. BAD: both MISSING, too; FULL.");
    due.is("full and both MISSING", x.read(0, NONE, NONE), BAD);
    due.is("full and no such RAM", x.read(1, 514, 2570), BAD);
    due.is("full", x.read(0, NONE, 2570), FULL);
    RamBook y = Made.plain();
    due.is("both MISSING", y.read(0, NONE, NONE), BAD);
    due.is("RAM -1", y.read(-1, 514, 2570), BAD);
    due.is("RAM 1", y.read(1, 514, 2570), BAD);
    due.is("none came", y.count(3), 0);
    y.ram(30, 150, 120, 4);
    due.is("of RAM 0", y.read(0, 514, NONE), 1);
    due.is("of RAM 1, all are counted", y.read(1, 1000000, NONE), 2);
    due.is("RAM 0 is held to its own", y.fits(0, 0), 1);
    due.is("RAM 1 is held to its own", y.fits(1, 0), 0);
    due.sentence("There are no READINGS: how many there were.");
    due.is("wipe() of two", y.wipe(), 2);
    due.is("RAM 1 is held to none", y.fits(1, 0), 1);
    due.is("wipe() of none", y.wipe(), 0);
    due.is("wipe() of twelve", x.wipe(), 12);
    due.is("count(3)", x.count(3), 0);
    due.is("the first anew", x.read(0, 514, 2570), 1);
  }

  // 1, if a healthy ram, with 514 BEATS and UP 2570, fits what was read.
  private static int fits(int beats, int up, int[] tolerances) {
    RamBook x = Made.plain();
    for (int what = 0; what < tolerances.length; what++) {
      x.tolerance(what, tolerances[what]);
    }
    x.read(0, beats, up);
    return x.fits(0, 0);
  }

  private static void tolerances() {
    int[] first = {};
    int[] none = {0, 0};
    int[] most = {500, 50};
    due.sentence("BEATS are within TOLERANCE BEATS (0 .. 500; 20 at first)");
    int[][] beats = {{493, 494, 534, 535}, {513, 514, 514, 515}, {13, 14, 1014, 1015}};
    int[][] ways = {first, none, most};
    for (int i = 0; i < ways.length; i++) {
      for (int k = 0; k < 4; k++) {
        due.is("read BEATS " + beats[i][k], fits(beats[i][k], NONE, ways[i]), k == 1 || k == 2 ? 1 : 0);
      }
    }
    due.sentence("UP within TOLERANCE UP (0 .. 50 hundredths of what was read, rounded down; 5 at first) of each READING.");
    // 5 of 2447 and of 2706 by 100: 122 and 135, a litre too little; 50 of 1713 and of 5141: 856 and 2570, too
    int[][] ups = {{2447, 2448, 2705, 2706}, {2569, 2570, 2570, 2571}, {1713, 1714, 5140, 5141}};
    for (int i = 0; i < ways.length; i++) {
      for (int k = 0; k < 4; k++) {
        due.is("read UP " + ups[i][k], fits(NONE, ups[i][k], ways[i]), k == 1 || k == 2 ? 1 : 0);
      }
    }
    due.is("UP 0, half of it is nothing", fits(NONE, 0, most), 0);
    due.is("UP 1000000", fits(NONE, 1000000, most), 0);
    due.is("BEATS fit, UP does not", fits(514, 2706, first), 0);
    due.is("UP fits, BEATS do not", fits(535, 2570, first), 0);
    RamBook each = Made.plain();
    each.read(0, 534, NONE);
    each.read(0, NONE, 2705);
    due.is("both of two", each.fits(0, 0), 1);
    each.read(0, 493, NONE);
    due.is("not the third", each.fits(0, 0), 0);
    due.sentence("TOLERANCE BEATS (what = 0), UP (1) becomes v: what it was. BAD.");
    RamBook x = new RamBook();
    int[][] rows = {{0, -1, BAD}, {0, 501, BAD}, {0, 0, 20}, {0, 500, 0}, {0, 20, 500}, {1, -1, BAD}, {1, 51, BAD}, {1, 0, 5},
        {1, 50, 0}, {1, 5, 50}, {-1, 5, BAD}, {2, 5, BAD}};
    for (int[] r : rows) {
      due.is("tolerance(" + r[0] + ", " + r[1] + ")", x.tolerance(r[0], r[1]), r[2]);
    }
  }

  private static void causes() {
    due.sentence("CAUSES: WORN, CHOKED, LEAK 0 .. 3 each, and AIR 100, 60, 20 or 0 (a place 0 .. 3):");
    int[][] rows = {{0, 100, 0, 0, 0}, {3, 100, 3, 0, 0}, {12, 100, 0, 3, 0}, {48, 100, 0, 0, 3}, {64, 60, 0, 0, 0},
        {128, 20, 0, 0, 0}, {192, 0, 0, 0, 0}, {255, 0, 3, 3, 3}};
    for (int[] r : rows) {
      // a ram of which each ill is seen in its UP
      RamBook x = Made.ram(130, 150, 150, 9, 10, 2, AIR, r[1], WORN, r[2], CHOKED, r[3], LEAK, r[4]);
      x.tolerance(0, 0);
      x.tolerance(1, 0);
      x.read(0, x.hourly(0, 0), x.hourly(0, 2));
      for (int[] other : rows) {
        due.is("ails by " + r[0] + ": fits(0, " + other[0] + ")", x.fits(0, other[0]), other == r ? 1 : 0);
      }
    }
    due.sentence("Whether a CAUSE FITS a RAM. BAD.");
    RamBook x = Made.plain();
    due.is("fits(0, 0)", x.fits(0, 0), 1);
    due.is("fits(0, 255)", x.fits(0, 255), 1);
    int[][] bad = {{0, -1}, {0, 256}, {-1, 0}, {1, 0}};
    for (int[] b : bad) {
      due.is("fits(" + b[0] + ", " + b[1] + ")", x.fits(b[0], b[1]), BAD);
    }
  }

  // A ram that was read once, to be met exactly.
  private static RamBook read(int[] ram, int beats, int up) {
    RamBook x = Made.ram(ram[0], ram[1], ram[2], ram[3]);
    x.tolerance(0, 0);
    x.tolerance(1, 0);
    x.read(0, beats, up);
    return x;
  }

  private static void sure(String name, RamBook x, int... want) {
    for (int what = 0; what < 4; what++) {
      due.is(name + ": sure(0, " + what + ")", x.sure(0, what), want[what]);
    }
  }

  private static void ails(String name, RamBook x, int... want) {
    for (int what = 0; what < 3; what++) {
      due.is(name + ": ails(0, " + what + ")", x.ails(0, what), want[what]);
    }
  }

  private static void looks() {
    RamBook one = read(new int[] {15, 212, 286, 5}, 105, 3885);
    RamBook none = read(new int[] {15, 212, 286, 5}, 1000000, 0);
    RamBook all = Made.plain();
    // two CAUSES fit each of these: 10 and one that shares AIR's place alone, and so on
    RamBook byWorn = read(new int[] {11, 53, 184, 4}, 163, 6846);
    RamBook byChoked = read(new int[] {98, 116, 284, 8}, 514, 44204);
    RamBook byLeak = read(new int[] {15, 52, 297, 5}, 200, 5600);
    RamBook byAir = read(new int[] {7, 166, 176, 1}, 100, 300);
    due.sentence("SURE: that which is the same in all CAUSES that FIT: of WORN (0), CHOKED (1), LEAK (2), AIR's place (3);");
    sure("one", one, 3, 3, 0, 0);
    sure("two by CHOKED", byChoked, 3, NONE, 0, 1);
    sure("two by LEAK", byLeak, 0, 1, NONE, NONE);
    sure("two by AIR", byAir, 2, 1, 0, NONE);
    due.sentence("NONE, if it is not, or none FITS.");
    sure("two by WORN", byWorn, NONE, NONE, NONE, 0);
    sure("none", none, NONE, NONE, NONE, NONE);
    sure("all", all, NONE, NONE, NONE, NONE);
    due.sentence("with one value of it, is least; of several the first; NONE, if none FITS, or just one.");
    ails("two by WORN, CHOKED, LEAK", byWorn, 2, 10, 0);
    ails("two by CHOKED", byChoked, 2, 75, 1);
    ails("two by LEAK, AIR", byLeak, 2, 52, 2);
    ails("two by AIR", byAir, 2, 6, 3);
    ails("all, each as good as another", all, 256, 0, 0);
    ails("just one", one, 1, 15, NONE);
    due.is("none: NEXT LOOK", none.ails(0, 2), NONE);
    // one object from all to one to none and back: what was found before does not stay
    RamBook x = Made.ram(15, 212, 286, 5);
    x.tolerance(0, 0);
    x.tolerance(1, 0);
    ails("at first", x, 256, 0, 0);
    x.read(0, 105, 3885);
    ails("then", x, 1, 15, NONE);
    x.read(0, 106, NONE);
    ails("then none", x, 0, NONE, NONE);
    x.wipe();
    ails("wiped", x, 256, 0, 0);
    due.sentence("How many CAUSES FIT a RAM (what = 0), the least (1; NONE), NEXT LOOK (2). BAD.");
    ails("none", none, 0, NONE, NONE);
    int[][] bad = {{0, -1}, {0, 3}, {-1, 0}, {1, 0}};
    for (int[] b : bad) {
      due.is("ails(" + b[0] + ", " + b[1] + ")", none.ails(b[0], b[1]), BAD);
    }
    due.sentence("SURE of a RAM: of WORN (0), CHOKED (1), LEAK (2), AIR's place (3); NONE. BAD.");
    due.is("sure(0, 3), none fits", none.sure(0, 3), NONE);
    int[][] wrong = {{0, -1}, {0, 4}, {-1, 0}, {1, 0}};
    for (int[] w : wrong) {
      due.is("sure(" + w[0] + ", " + w[1] + ")", none.sure(w[0], w[1]), BAD);
    }
  }

  private static void counts() {
    due.sentence("0 RAMS, 1 TUNES, 2 ITEMS, 3 READINGS, 4 MONTH, 5 DAY, 6 HOUR, 7 bytes of THE DRAFT. BAD.");
    RamBook x = new RamBook();
    for (int what = 0; what <= 7; what++) {
      due.is("a new one: count(" + what + ")", x.count(what), 0);
    }
    for (int i = 0; i < 13; i++) {
      x.ram(30, 150, 120, 4);
      x.tune(60, 4);
      x.read(0, 514, 2570);
    }
    Due.type(x, "f2 0-1:1;".repeat(12));
    x.rights();
    for (int i = 0; i < 11; i++) {
      x.hours(720);
    }
    x.hours(719);
    for (int i = 0; i < 151; i++) {
      x.type(0, 1);
    }
    int[] most = {4, 6, 12, 12, 11, 29, 23, 150};
    for (int what = 0; what <= 7; what++) {
      due.is("the most: count(" + what + ")", x.count(what), most[what]);
    }
    due.is("count(-1)", x.count(-1), BAD);
    due.is("count(8)", x.count(8), BAD);
  }

  public static void main(String[] args) {
    readings();
    tolerances();
    causes();
    looks();
    counts();
    due.end();
  }
}
