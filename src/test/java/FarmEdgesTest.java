/** Edges of the document's part 3 and of promises 16 to 22, sentence by sentence. */
public final class FarmEdgesTest {
  private static final int BAD = -1, FULL = -3;
  private static final int AIR = 6, RUNS = 12;
  private static final Due due = new Due("FarmEdgesTest");

  private static void tank() {
    due.sentence("THE TANK holds 0 .. its ROOM (100 .. 1000000; 50000 at first).");
    RamBook x = new RamBook();
    due.is("ROOM at first", x.tank(0, 50000), 50000);
    int[][] rows = {{0, 99, BAD}, {0, 1000001, BAD}, {0, 100, 50000}, {0, 1000000, 100}, {1, -1, BAD}, {1, 1000001, BAD},
        {1, 1000000, 0}, {1, 0, 1000000}};
    for (int[] r : rows) {
      due.is("tank(" + r[0] + ", " + r[1] + ")", x.tank(r[0], r[1]), r[2]);
    }
    due.sentence("THE TANK's ROOM (what = 0), what it holds (1) becomes v: what it was. BAD: it holds more than ROOM.");
    RamBook y = new RamBook();
    int[][] held = {{1, 50001, BAD}, {1, 50000, 0}, {0, 49999, BAD}, {0, 50000, 50000}, {1, 700, 50000}, {0, 699, BAD},
        {0, 700, 50000}, {1, 701, BAD}, {1, 700, 700}, {-1, 500, BAD}, {2, 500, BAD}};
    for (int[] h : held) {
      due.is("tank(" + h[0] + ", " + h[1] + ")", y.tank(h[0], h[1]), h[2]);
    }
    due.is("book(5)", y.book(5), 700);
  }

  private static void typed() {
    due.sentence("The lowest n (1 .. 8) bytes of v, the highest of them first, come to THE DRAFT (150 at most)");
    // the text is longer than any n, so that bytes above those must be left out
    String text = "f3 12-20:4567;";
    for (int n = 1; n <= 8; n++) {
      RamBook x = new RamBook();
      for (int at = 0; at < text.length(); at += n) {
        int size = Math.min(n, text.length() - at);
        long v = -1;
        for (int i = 0; i < size; i++) {
          v = v << 8 | text.charAt(at + i);
        }
        due.is("pieces of " + n + ": bytes", x.type(v, size), at + size);
      }
      due.is("pieces of " + n + ": rights()", x.rights(), 1);
      due.is("pieces of " + n + ": right(3, 12)", x.right(3, 12), 4567);
    }
    RamBook full = new RamBook();
    for (int i = 1; i <= 18; i++) {
      due.is("eight bytes more", full.type(0, 8), 8 * i);
    }
    due.is("six bytes, to 150", full.type(0, 6), 150);
    due.is("count(7)", full.count(7), 150);
    due.sentence("how many it has. BAD; FULL.");
    for (int n : new int[] {-1, 0, 9}) {
      due.is("type(1, " + n + ") of a new one", new RamBook().type(1, n), BAD);
      due.is("full and bad: type(1, " + n + ")", full.type(1, n), BAD);
    }
    for (int n = 1; n <= 8; n++) {
      due.is("full: type(1, " + n + ")", full.type(1, n), FULL);
    }
    RamBook nearly = new RamBook();
    for (int i = 0; i < 147; i++) {
      nearly.type('f', 1);
    }
    due.is("four bytes, three are left", nearly.type(1, 4), FULL);
    due.is("count(7) after a refusal", nearly.count(7), 147);
    due.is("three bytes, three are left", nearly.type(1, 3), 150);
    due.sentence("THE DRAFT is empty: how many bytes it had.");
    due.is("clear() of 150", full.clear(), 150);
    due.is("count(7)", full.count(7), 0);
    due.is("clear() of none", full.clear(), 0);
    due.is("type() then", full.type('f', 1), 1);
    due.is("clear() of one", full.clear(), 1);
  }

  // -1: no fault; the ITEM is the only one then.
  private static void faultOf(String text, int place) {
    RamBook x = new RamBook();
    Due.type(x, text);
    due.is("rights() of '" + text + "'", x.rights(), place < 0 ? 1 : -10 - place);
    due.is("count(7) after '" + text + "'", x.count(7), place < 0 ? 0 : text.length());
    due.is("count(2) after '" + text + "'", x.count(2), place < 0 ? 1 : 0);
  }

  private static void signs() {
    due.sentence("FAULT: the place of the first byte that can't stand there");
    String good = "f3 1-20:4567;";
    for (int at = 0; at < good.length(); at++) {
      for (int sign = 0; sign <= 255; sign++) {
        // may stand there, so that something else is wrong later, or nothing: a number's end or one more digit of it
        boolean endsNumber = at == 6 && sign == ':' || at >= 9 && sign == ';';
        boolean oneDigit = at >= 3 && at <= 11 && at != 7 && sign >= '0' && sign <= '9';
        boolean farm = at == 1 && sign >= '0' && sign <= '4';
        if (sign != good.charAt(at) && !endsNumber && !oneDigit && !farm) {
          faultOf(good.substring(0, at) + (char) sign + good.substring(at + 1), at);
        }
      }
    }
    faultOf(good + " ", 13);
    faultOf(good + ";", 13);
    faultOf(good + "\n", 13);
    due.sentence("FARMS 0 .. 4 have RIGHTS told by a text: ITEMS one behind the other");
    for (int farm = 0; farm <= 9; farm++) {
      faultOf("f" + farm + " 0-1:1;", farm <= 4 ? -1 : 1);
    }
    for (int farm = 0; farm <= 4; farm++) {
      RamBook x = Made.rights("f" + farm + " 0-1:7;");
      for (int other = 0; other <= 4; other++) {
        due.is("told of " + farm + ": right(" + other + ", 0)", x.right(other, 0), other == farm ? 7 : 0);
      }
    }
    due.sentence("(Numbers without 0 ahead.)");
    faultOf("f00 0-1:1;", 2);
    faultOf("f0 00-1:1;", 4);
    faultOf("f0 01-2:1;", 4);
    faultOf("f0 0-01:1;", 5);
    faultOf("f0 0-00:1;", 5);
    faultOf("f0 0-1:01;", 7);
    faultOf("f0 0-1:00;", 7);
  }

  // The place of the digit by which a number that begins at a place is beyond the most; -1, if it is not.
  private static int beyond(int from, String number, int most) {
    int value = 0;
    for (int i = 0; i < number.length(); i++) {
      value = 10 * value + number.charAt(i) - '0';
      if (value > most) {
        return from + i;
      }
    }
    return -1;
  }

  private static void numbers() {
    due.sentence("each f, a FARM's digit, blank, an HOUR (0 .. 23), -");
    for (int hour = 0; hour <= 300; hour++) {
      faultOf("f0 " + hour + "-24:1;", beyond(3, "" + hour, 23));
    }
    due.sentence("-, another HOUR (1 .. 24, above it), :");
    for (int hour = 0; hour <= 300; hour++) {
      faultOf("f0 0-" + hour + ":1;", hour == 0 ? 5 : beyond(5, "" + hour, 24));
    }
    due.sentence("LITRES an HOUR (1 .. 9999), ; at the end.");
    int[] litres = {0, 1, 9, 10, 99, 100, 999, 1000, 9998, 9999, 10000, 10001, 99999, 100000, 999999999};
    for (int v : litres) {
      faultOf("f0 0-1:" + v + ";", v == 0 ? 7 : beyond(7, "" + v, 9999));
    }
    faultOf("f0 0-1:99999999999999999999;", 11);
    due.is("9999", Made.rights("f0 0-1:9999;").right(0, 0), 9999);
    due.is("1", Made.rights("f0 0-1:1;").right(0, 0), 1);
    due.sentence("or by which a number is beyond what it may be;");
    faultOf("f0 24-24:1;", 4);
    faultOf("f0 230-24:1;", 5);
    faultOf("f0 0-25:1;", 6);
    faultOf("f0 0-240:1;", 7);
    faultOf("f0 12-110:1;", 8);
    faultOf("f0 0-1:10000;", 11);
  }

  private static void ends() {
    due.sentence("the text's length, if it ends too early;");
    String two = "f0 0-9:12;f4 0-24:9999;";
    // what THE DRAFT had before is not read on
    RamBook reused = Made.rights(two);
    for (int end = 1; end < two.length(); end++) {
      if (end != 10) {
        faultOf(two.substring(0, end), end);
        Due.type(reused, two.substring(0, end));
        due.is("the same behind a longer one: rights()", reused.rights(), -10 - end);
        reused.clear();
      }
    }
    // eleven ITEMS and the beginning of one more: 150 bytes, so that nothing lies behind them
    for (int end = 1; end <= 12; end++) {
      int longer = 150 - 11 * 12 - end, longest = Math.max(0, longer - 11);
      String items = "f0 10-24:9999;".repeat(longest) + "f0 0-24:9999;".repeat(longer - 2 * longest)
          + "f0 0-9:9999;".repeat(11 - longer + longest);
      faultOf(items + "f0 0-24:9999;".substring(0, end), 150);
    }
    due.is("it ends in time", Made.rights(two.substring(0, 10)).count(2), 1);
    due.is("it does not end too early", Made.rights(two).count(2), 2);
    due.sentence("a second HOUR that is not above: at its last byte.");
    for (int from = 0; from <= 23; from++) {
      for (int to = 1; to <= 24; to++) {
        String ahead = "f0 " + from + "-" + to;
        faultOf(ahead + ":1;", to > from ? -1 : ahead.length() - 1);
      }
    }
    // what is wrong behind it comes later, the text's end too
    faultOf("f0 9-5x", 5);
    faultOf("f0 12-2x", 6);
    faultOf("f0 12-11", 7);
    faultOf("f0 12-2", 6);
    faultOf("f0 5-5:0;", 5);
  }

  private static String many(int items) {
    return "f2 0-1:1;".repeat(items);
  }

  private static void items() {
    due.sentence("12 ITEMS at most; of one more its f.");
    RamBook x = new RamBook();
    Due.type(x, many(12));
    due.is("twelve", x.rights(), 12);
    due.is("count(2)", x.count(2), 12);
    due.is("right(2, 0)", x.right(2, 0), 12);
    Due.type(x, many(13));
    due.is("thirteen", x.rights(), -10 - 108);
    due.is("count(2), as it was", x.count(2), 12);
    faultOf(many(12) + "f", 108);
    faultOf(many(12) + "x", 108);
    faultOf(many(16), 108);
    due.sentence("An ITEM holds HOURS from the one up to, not with, the other;");
    int[][] spans = {{0, 1}, {0, 24}, {6, 9}, {23, 24}};
    for (int[] s : spans) {
      RamBook y = Made.rights("f1 " + s[0] + "-" + s[1] + ":5;");
      for (int hour = 0; hour <= 23; hour++) {
        due.is(s[0] + "-" + s[1] + ": right(1, " + hour + ")", y.right(1, hour), hour >= s[0] && hour < s[1] ? 5 : 0);
      }
    }
    due.sentence("in an HOUR a FARM has the LITRES of all its ITEMS that hold it, together.");
    // 150 bytes, 12 ITEMS: the most that a FARM can have
    RamBook most = new RamBook();
    due.is("bytes", Due.type(most, "f0 0-9:9999;".repeat(6) + "f0 0-24:9999;".repeat(6)), 150);
    due.is("rights()", most.rights(), 12);
    due.is("right(0, 8)", most.right(0, 8), 12 * 9999);
    due.is("right(0, 9)", most.right(0, 9), 6 * 9999);
    due.is("a month of it is SHORT", most.hours(720), 30 * 9999L * (12 * 9 + 6 * 15));
    due.sentence("THE DRAFT tells all RIGHTS anew, and is empty then: how many ITEMS. -10 less FAULT: nothing changes.");
    RamBook anew = Made.rights("f0 0-1:5;f1 0-1:6;");
    due.is("an empty DRAFT", anew.rights(), 0);
    due.is("right(0, 0)", anew.right(0, 0), 0);
    due.is("count(2)", anew.count(2), 0);
    Due.type(anew, "f1 0-1:6;");
    due.is("one", anew.rights(), 1);
    due.is("empty then", anew.count(7), 0);
    Due.type(anew, "f0 0-1:5;f1 0-1:7;!");
    due.is("a FAULT", anew.rights(), -28);
    due.is("the same FAULT again", anew.rights(), -28);
    due.is("right(0, 0), none", anew.right(0, 0), 0);
    due.is("right(1, 0), as it was", anew.right(1, 0), 6);
    due.is("THE DRAFT, as it was", anew.count(7), 19);
    due.sentence("LITRES of a FARM in an HOUR 0 .. 23. BAD.");
    int[][] bad = {{-1, 0}, {5, 0}, {0, -1}, {0, 24}};
    for (int[] b : bad) {
      due.is("right(" + b[0] + ", " + b[1] + ")", anew.right(b[0], b[1]), BAD);
    }
    due.is("right(4, 23)", anew.right(4, 23), 0);
  }

  private static void now(RamBook x, String name, int month, int day, int hour) {
    due.is(name + ": MONTH", x.count(4), month);
    due.is(name + ": DAY", x.count(5), day);
    due.is(name + ": HOUR", x.count(6), hour);
  }

  private static void calendar() {
    due.sentence("A DAY has 24 HOURS, a MONTH 30 DAYS; NOW is MONTH, DAY, HOUR (0, 0, 0 at first; behind MONTH 11 comes MONTH 0).");
    RamBook x = new RamBook();
    now(x, "at first", 0, 0, 0);
    x.hours(23);
    now(x, "the last HOUR of a DAY", 0, 0, 23);
    x.hours(1);
    now(x, "the next DAY", 0, 1, 0);
    x.hours(28 * 24 + 23);
    now(x, "the last HOUR of a MONTH", 0, 29, 23);
    x.hours(1);
    now(x, "the next MONTH", 1, 0, 0);
    for (int i = 0; i < 10; i++) {
      x.hours(720);
    }
    x.hours(719);
    now(x, "the last HOUR of MONTH 11", 11, 29, 23);
    x.hours(1);
    now(x, "MONTH 0 again", 0, 0, 0);
    due.sentence("n HOURS (1 .. 720) go: the LITRES that were SHORT in them. BAD.");
    RamBook y = Made.rights("f0 0-24:1;");
    int[][] rows = {{-1, BAD}, {0, BAD}, {721, BAD}, {1, 1}, {720, 720}};
    for (int[] r : rows) {
      due.is("hours(" + r[0] + ")", y.hours(r[0]), r[1]);
    }
    now(y, "721 HOURS went", 1, 0, 1);
    // SHORT of this call alone, not since ever
    due.is("hours(2)", y.hours(2), 2);
    due.is("book(4)", y.book(4), 723);
  }

  private static void water() {
    due.sentence("one DRAWS what it does, if so much of the SPRING is left (else it stands still);");
    RamBook x = Made.plain();
    x.ram(30, 150, 120, 4);
    // both are asked for their AIR: who lost some beat
    int[][] rows = {{26213, 100, 100}, {26214, 99, 100}, {52427, 99, 100}, {52428, 99, 99}};
    for (int[] r : rows) {
      x.set(0, AIR, 100);
      x.set(1, AIR, 100);
      x.spring(0, r[0]);
      x.hours(1);
      due.is("water " + r[0] + ": AIR of RAM 0", x.about(0, AIR), r[1]);
      due.is("water " + r[0] + ": AIR of RAM 1", x.about(1, AIR), r[2]);
    }
    due.is("UP", x.book(0), 4 * 2570);
    due.is("WASTE", x.book(1), 4 * 23644);
    // RAM 0 needs more than there is, RAM 1 less
    x.set(1, AIR, 100);
    x.set(1, 3, 1);
    x.spring(0, 26213);
    x.hours(1);
    due.is("what RAM 0 leaves is RAM 1's", x.about(1, AIR), 99);
    due.sentence("RAMS in order that run (told: on, or off; on at first), not stopped by FROST, SILENCE");
    RamBook off = Made.plain();
    due.is("on at first", off.set(0, RUNS, 0), 1);
    off.hours(1);
    due.is("off: UP", off.book(0), 0);
    off.set(0, RUNS, 1);
    off.hours(1);
    due.is("on: UP", off.book(0), 2570);
    due.sentence("UP comes to THE TANK; what it has above its ROOM is SPILT.");
    int[][] rooms = {{2571, 0, 2570}, {2570, 0, 2570}, {2569, 1, 2569}, {100, 2470, 100}};
    for (int[] r : rooms) {
      RamBook y = Made.plain();
      y.tank(0, r[0]);
      y.hours(1);
      due.is("ROOM " + r[0] + ": SPILT", y.book(2), r[1]);
      due.is("ROOM " + r[0] + ": THE TANK", y.book(5), r[2]);
      due.is("ROOM " + r[0] + ": UP", y.book(0), 2570);
    }
    RamBook brim = Made.plain();
    brim.tank(1, 50000);
    Due.type(brim, "f0 0-1:9;");
    brim.rights();
    due.is("full, and a FARM takes after that", brim.hours(1), 0);
    due.is("SPILT", brim.book(2), 2570);
    due.is("THE TANK", brim.book(5), 49991);
  }

  private static void farms() {
    due.sentence("FARM by FARM takes its LITRES, or what is there: what lacks is SHORT.");
    int[][] rows = {{101, 0, 0, 1}, {100, 0, 0, 0}, {99, 0, 1, 0}, {60, 0, 40, 0}, {59, 1, 40, 0}, {0, 60, 40, 0}};
    for (int[] r : rows) {
      RamBook x = Made.rights("f4 0-1:40;f0 0-1:60;");
      x.tank(1, r[0]);
      due.is("of " + r[0] + ": hours(1)", x.hours(1), r[1] + r[2]);
      due.is("of " + r[0] + ": SHORT of FARM 0", x.book(6), r[1]);
      due.is("of " + r[0] + ": SHORT of FARM 4", x.book(10), r[2]);
      due.is("of " + r[0] + ": SHORT", x.book(4), r[1] + r[2]);
      due.is("of " + r[0] + ": taken", x.book(3), 100 - r[1] - r[2]);
      due.is("of " + r[0] + ": THE TANK", x.book(5), r[3]);
    }
    due.sentence("THE BOOK, since ever: UP, WASTE, SPILT, taken, SHORT; of each FARM what was SHORT.");
    RamBook x = Made.plain(11, 1);
    x.tank(0, 100);
    Due.type(x, "f0 0-1:101;f3 0-1:7;");
    x.rights();
    for (int month = 1; month <= 11; month++) {
      x.spring(month, 1000000);
    }
    for (int i = 0; i < 24; i++) {
      x.hours(720);
    }
    long hours = 24 * 720;
    // the TANK is full behind the first HOUR of all: each day 100 are taken
    long[] want = {2570 * hours, 23644 * hours, 2570 * hours - 720 * 100 - 100, 720 * 100, 720 * 8, 100, 720, 0, 0, 720 * 7, 0};
    for (int what = 0; what <= 10; what++) {
      due.is("two years: book(" + what + ")", x.book(what), want[what]);
    }
    x.tank(1, 0);
    x.rights();
    x.set(0, RUNS, 0);
    want[5] = 0;
    for (int what = 0; what <= 10; what++) {
      due.is("whatever is changed: book(" + what + ")", x.book(what), want[what]);
    }
    due.sentence("5 what THE TANK holds, 6 .. 10 SHORT of FARMS 0 .. 4. -1: BAD.");
    RamBook y = Made.rights("f0 0-1:1;f1 0-1:2;f2 0-1:3;f3 0-1:4;f4 0-1:5;");
    y.hours(1);
    y.tank(1, 6);
    for (int what = 5; what <= 10; what++) {
      due.is("book(" + what + ")", y.book(what), what == 5 ? 6 : what - 5);
    }
    due.is("book(-1)", y.book(-1), BAD);
    due.is("book(11)", y.book(11), BAD);
  }

  // The most that a run can ask for: numbers in THE BOOK go beyond what an int can hold.
  private static void allCalls() {
    due.sentence("An object is used for at most 512 calls after it has been made");
    RamBook x = new RamBook();
    x.ram(190, 327, 481, 5);
    x.set(0, 4, 400);
    x.set(0, 5, 7);
    x.set(0, 11, 1);
    for (int month = 0; month <= 11; month++) {
      x.spring(month, 1000000);
    }
    long waste = x.hourly(0, 1);
    for (int i = 0; i < 489; i++) {
      x.hours(720);
    }
    due.is("UP of the 507th call", x.book(0), 68016L * 720 * 489);
    due.is("WASTE of the 508th call", x.book(1), waste * 720 * 489);
    due.is("SPILT of the 509th call", x.book(2), 68016L * 720 * 489 - 50000);
    due.is("THE TANK of the 510th call", x.book(5), 50000);
    due.is("MONTH of the 511th call", x.count(4), 489 % 12);
    due.is("AIR of the 512th call", x.about(0, AIR), 100);
  }

  public static void main(String[] args) {
    tank();
    typed();
    signs();
    numbers();
    ends();
    items();
    calendar();
    water();
    farms();
    allCalls();
    due.end();
  }
}
