import java.util.ArrayList;
import java.util.List;

/**
 * What is refused changes nothing: each call with each of its numbers beyond its edges, on one of two objects that
 * were made alike; then all that can be asked of the two is the same.
 */
public final class RefusalTest {
  private static final int BAD = -1, STATE = -2, FULL = -3, NONE = -9;
  private static final Due due = new Due("RefusalTest");

  private interface Call {
    long on(RamBook x, int[] n);
  }

  // Its numbers as they may be in half(), and for each of them the least and the most.
  private record Row(String name, Call call, int[] good, int[]... edges) {
  }

  /** Three rams of four and room for more of all; every thing differs from what it is at first. */
  private static RamBook half() {
    RamBook x = new RamBook();
    x.ram(30, 150, 120, 4);
    x.ram(40, 160, 80, 5);
    x.ram(7, 100, 900, 1);
    x.set(0, 7, 1);
    x.set(1, 9, 2);
    x.set(1, 10, 2);
    x.set(2, 11, 1);
    x.set(2, 5, 2);
    x.tune(60, 4);
    x.tune(400, 9);
    for (int month = 0; month < 12; month++) {
      x.spring(month, 60000 + month);
      x.frost(month, 1 + month);
    }
    x.silence(3, 5);
    x.tank(0, 9000);
    x.tank(1, 500);
    Due.type(x, "f0 0-9:200;f3 2-24:900;");
    x.rights();
    Due.type(x, "f1 0-7:5;");
    x.read(0, 514, 3598);
    x.read(1, NONE, 9000);
    x.tolerance(0, 30);
    x.tolerance(1, 7);
    x.hours(31);
    x.work(1, 0);
    return x;
  }

  /** The same with all that can be full, full: three bytes more find a place in THE DRAFT. */
  private static RamBook full() {
    RamBook x = half();
    x.ram(20, 90, 50, 3);
    for (int k = 2; k < 6; k++) {
      x.tune(50 + k, k);
    }
    for (int i = 2; i < 12; i++) {
      x.read(i % 4, 300 + i, NONE);
    }
    for (int i = 9; i < 147; i += 6) {
      x.type(0x6631202d3b3aL, 6);
    }
    return x;
  }

  /** All that can be asked of an object, some 370 calls; what can't be asked for is changed, and tells what it was. */
  private static List<Long> asked(RamBook x) {
    List<Long> all = new ArrayList<>();
    for (int what = 0; what <= 10; what++) {
      all.add(x.book(what));
      all.add((long) x.count(Math.min(what, 7)));
    }
    all.add(x.trace());
    for (int farm = 0; farm < 5; farm++) {
      for (int hour = 0; hour < 24; hour++) {
        all.add((long) x.right(farm, hour));
      }
    }
    for (int ram = 0; ram < 4; ram++) {
      for (int what = 0; what <= 12; what++) {
        all.add((long) x.about(ram, what));
      }
      all.add((long) x.beat(ram, 3));
      all.add((long) x.hourly(ram, 3));
      all.add((long) x.ails(ram, 0));
      all.add((long) x.ails(ram, 1));
    }
    all.add((long) x.tuned(0, 1, 1, 0));
    all.add((long) x.side(1, 0));
    askByChange(x, all);
    return all;
  }

  private static void askByChange(RamBook x, List<Long> all) {
    // SILENCE is told by when rams beat
    all.add((long) x.hours(24));
    for (int ram = 0; ram < 4; ram++) {
      all.add((long) x.about(ram, 6));
    }
    for (int digit = 1; digit <= 6; digit++) {
      all.add((long) x.take(digit));
      all.add((long) x.about(0, 4));
      all.add((long) x.about(0, 5));
    }
    for (int month = 0; month < 12; month++) {
      all.add((long) x.spring(month, 0));
      all.add((long) x.frost(month, 0));
    }
    all.add((long) x.tank(0, 1000000));
    all.add((long) x.tank(1, 0));
    all.add((long) x.tolerance(0, 0));
    all.add((long) x.tolerance(1, 0));
    all.add((long) x.rights());
    all.add((long) x.right(1, 6));
    all.add((long) x.clear());
    all.add((long) x.wipe());
    all.add((long) x.forget());
    all.add((long) x.ram(5, 6, 20, 1));
  }

  private static int[] edge(int least, int most) {
    return new int[] {least, most};
  }

  private static List<Row> rams() {
    List<Row> rows = new ArrayList<>();
    rows.add(new Row("ram", (x, n) -> x.ram(n[0], n[1], n[2], n[3]), new int[] {30, 1000, 120, 4},
        edge(5, 200), edge(31, 1000), edge(20, 900), edge(1, 9)));
    // FALL and RISE are held against one another, so their edges are those of one ram
    rows.add(new Row("set, FALL of ram 2", (x, n) -> x.set(2, 0, n[0]), new int[] {20}, edge(5, 99)));
    rows.add(new Row("set, RISE of ram 1", (x, n) -> x.set(1, 1, n[0]), new int[] {170}, edge(41, 1000)));
    int[][] things = {{2, 20, 900}, {3, 1, 9}, {4, 5, 400}, {5, 1, 9}, {6, 0, 100}, {7, 0, 3}, {8, 0, 3}, {9, 0, 3}, {10, 0, 2},
        {11, 0, 1}, {12, 0, 1}};
    for (int[] t : things) {
      rows.add(new Row("set, what " + t[0], (x, n) -> x.set(n[0], t[0], n[1]), new int[] {0, t[2]}, edge(0, 2), edge(t[1], t[2])));
    }
    rows.add(new Row("set, what", (x, n) -> x.set(0, n[0], n[0] == 0 ? 20 : 1), new int[] {7}, edge(0, 12)));
    rows.add(new Row("about", (x, n) -> x.about(n[0], n[1]), new int[] {0, 0}, edge(0, 2), edge(0, 12)));
    rows.add(new Row("work", (x, n) -> x.work(n[0], n[1]), new int[] {0, 0}, edge(0, 2), edge(0, 2)));
    rows.add(new Row("beat", (x, n) -> x.beat(n[0], n[1]), new int[] {0, 0}, edge(0, 2), edge(0, 4)));
    rows.add(new Row("hourly", (x, n) -> x.hourly(n[0], n[1]), new int[] {0, 0}, edge(0, 2), edge(0, 3)));
    return rows;
  }

  private static List<Row> tuning() {
    return List.of(
        new Row("spring", (x, n) -> x.spring(n[0], n[1]), new int[] {0, 5}, edge(0, 11), edge(0, 1000000)),
        new Row("tuned", (x, n) -> x.tuned(n[0], n[1], n[2], n[3]), new int[] {0, 0, 0, 0},
            edge(0, 2), edge(0, 11), edge(0, 1), edge(0, 2)),
        new Row("tune", (x, n) -> x.tune(n[0], n[1]), new int[] {60, 4}, edge(5, 400), edge(1, 9)),
        new Row("side", (x, n) -> x.side(n[0], n[1]), new int[] {0, 0}, edge(0, 11), edge(0, 1)),
        new Row("take", (x, n) -> x.take(n[0]), new int[] {9}, edge(0, 2 + 7 * 2 + 49 * 2)),
        new Row("take, the lowest digit", (x, n) -> x.take(n[0]), new int[] {1}, edge(0, 2)),
        new Row("frost", (x, n) -> x.frost(n[0], n[1]), new int[] {0, 5}, edge(0, 11), edge(0, 23)),
        new Row("silence, from", (x, n) -> x.silence(n[0], 24), new int[] {5}, edge(0, 24)),
        new Row("silence, to", (x, n) -> x.silence(0, n[0]), new int[] {5}, edge(0, 24)),
        new Row("silence, from above to", (x, n) -> x.silence(n[0], 12), new int[] {5}, edge(0, 12)));
  }

  private static List<Row> farms() {
    return List.of(
        new Row("tank, what", (x, n) -> x.tank(n[0], 9000), new int[] {0}, edge(0, 1)),
        new Row("tank, ROOM", (x, n) -> x.tank(0, n[0]), new int[] {9500}, edge((int) half().book(5), 1000000)),
        new Row("tank, what it holds", (x, n) -> x.tank(1, n[0]), new int[] {100}, edge(0, 9000)),
        new Row("type", (x, n) -> x.type(0x3b3b3b3b3b3b3b3bL, n[0]), new int[] {3}, edge(1, 8)),
        new Row("right", (x, n) -> x.right(n[0], n[1]), new int[] {0, 0}, edge(0, 4), edge(0, 23)),
        new Row("hours", (x, n) -> x.hours(n[0]), new int[] {5}, edge(1, 720)),
        new Row("book", (x, n) -> x.book(n[0]), new int[] {0}, edge(0, 10)));
  }

  private static List<Row> ails() {
    return List.of(
        new Row("read", (x, n) -> x.read(n[0], n[1], n[2]), new int[] {0, 5, 5}, edge(0, 2), edge(0, 1000000), edge(0, 1000000)),
        new Row("read, UP is MISSING", (x, n) -> x.read(n[0], n[1], NONE), new int[] {0, 5}, edge(0, 2), edge(0, 1000000)),
        new Row("read, BEATS are MISSING", (x, n) -> x.read(n[0], NONE, n[1]), new int[] {0, 5}, edge(0, 2), edge(0, 1000000)),
        new Row("tolerance, BEATS", (x, n) -> x.tolerance(0, n[0]), new int[] {5}, edge(0, 500)),
        new Row("tolerance, UP", (x, n) -> x.tolerance(1, n[0]), new int[] {5}, edge(0, 50)),
        new Row("tolerance, what", (x, n) -> x.tolerance(n[0], 5), new int[] {0}, edge(0, 1)),
        new Row("fits", (x, n) -> x.fits(n[0], n[1]), new int[] {0, 0}, edge(0, 2), edge(0, 255)),
        new Row("ails", (x, n) -> x.ails(n[0], n[1]), new int[] {0, 0}, edge(0, 2), edge(0, 2)),
        new Row("sure", (x, n) -> x.sure(n[0], n[1]), new int[] {0, 0}, edge(0, 2), edge(0, 3)),
        new Row("count", (x, n) -> x.count(n[0]), new int[] {0}, edge(0, 7)));
  }

  private static void refused(String call, RamBook x, RamBook twin, long answer, long want) {
    due.is(call, answer, want);
    due.is(call + ": all is as it was", asked(x).equals(asked(twin)) ? 1 : 0, 1);
  }

  private static void everyRow(List<Row> rows) {
    for (Row row : rows) {
      for (int at = 0; at < row.good.length; at++) {
        int least = row.edges[at][0], most = row.edges[at][1];
        for (int v : new int[] {least, most}) {
          due.is(row.name + ", number " + at + " is " + v + ": not refused", isRefused(answer(row, half(), at, v)) ? 1 : 0, 0);
        }
        for (int v : new int[] {least - 1, most + 1, Integer.MIN_VALUE, Integer.MAX_VALUE}) {
          RamBook x = half();
          refused(row.name + ", number " + at + " is " + v, x, half(), answer(row, x, at, v), BAD);
        }
      }
    }
  }

  private static long answer(Row row, RamBook x, int at, int v) {
    int[] n = row.good.clone();
    n[at] = v;
    return row.call.on(x, n);
  }

  private static boolean isRefused(long answer) {
    return answer == BAD || answer == STATE || answer == FULL;
  }

  private static void pairsOfNumbers() {
    Object[][] rows = {
        {"RISE at FALL", (Call) (x, n) -> x.ram(30, 30, 120, 4)},
        {"RISE below FALL", (Call) (x, n) -> x.ram(30, 29, 120, 4)},
        {"FALL at RISE", (Call) (x, n) -> x.set(0, 0, 150)},
        {"FALL above RISE", (Call) (x, n) -> x.set(0, 0, 151)},
        {"RISE set below FALL", (Call) (x, n) -> x.set(1, 1, 39)},
        {"from above to", (Call) (x, n) -> x.silence(13, 12)},
        {"a digit of no TUNE behind a good one", (Call) (x, n) -> x.take(1 + 7 * 3)},
        {"a digit too many", (Call) (x, n) -> x.take(343 + 1)},
        {"both MISSING", (Call) (x, n) -> x.read(0, NONE, NONE)},
        {"it holds more than ROOM", (Call) (x, n) -> x.tank(1, 9001)},
        {"ROOM below what it holds", (Call) (x, n) -> x.tank(0, (int) x.book(5) - 1)}};
    for (Object[] row : rows) {
      RamBook x = half();
      refused((String) row[0], x, half(), ((Call) row[1]).on(x, null), BAD);
    }
  }

  private static void whatIsFull() {
    Object[][] rows = {
        {"ram", FULL, (Call) (x, n) -> x.ram(30, 150, 120, 4)},
        {"ram, BAD first", BAD, (Call) (x, n) -> x.ram(30, 150, 120, 10)},
        {"tune", FULL, (Call) (x, n) -> x.tune(60, 4)},
        {"tune, BAD first", BAD, (Call) (x, n) -> x.tune(60, 10)},
        {"type, more than find a place", FULL, (Call) (x, n) -> x.type(0x3b3b3b3bL, 4)},
        {"type, BAD first", BAD, (Call) (x, n) -> x.type(0x3b, 9)},
        {"read", FULL, (Call) (x, n) -> x.read(0, 5, 5)},
        {"read, BAD first", BAD, (Call) (x, n) -> x.read(4, 5, 5)},
        {"rights, a FAULT", full().rights(), (Call) (x, n) -> x.rights()}};
    for (Object[] row : rows) {
      RamBook x = full();
      refused("full: " + row[0], x, full(), ((Call) row[2]).on(x, null), (Integer) row[1]);
    }
    due.is("three bytes find a place", full().type(0x3b3b3b, 3), 150);
    due.is("a FAULT there", full().rights(), -10 - 12);
  }

  // If asked() were blind to something, the tests above could not see it change.
  private static void whatIsSeen() {
    Object[][] rows = {
        {"set", (Call) (x, n) -> x.set(2, 11, 0)},
        {"spring", (Call) (x, n) -> x.spring(11, 5)},
        {"frost", (Call) (x, n) -> x.frost(11, 5)},
        {"silence, from", (Call) (x, n) -> x.silence(4, 5)},
        {"silence, to", (Call) (x, n) -> x.silence(3, 6)},
        {"tune", (Call) (x, n) -> x.tune(60, 4)},
        {"forget", (Call) (x, n) -> x.forget()},
        {"tank, ROOM", (Call) (x, n) -> x.tank(0, 9001)},
        {"tank, what it holds", (Call) (x, n) -> x.tank(1, 1)},
        {"type", (Call) (x, n) -> x.type(0, 1)},
        {"rights", (Call) (x, n) -> x.rights()},
        {"tolerance, BEATS", (Call) (x, n) -> x.tolerance(0, 31)},
        {"tolerance, UP", (Call) (x, n) -> x.tolerance(1, 8)},
        {"read", (Call) (x, n) -> x.read(0, 514, 3598)},
        {"work", (Call) (x, n) -> x.work(0, 0)},
        {"hours", (Call) (x, n) -> x.hours(1)}};
    for (Object[] row : rows) {
      RamBook x = half();
      ((Call) row[1]).on(x, null);
      due.is("seen: " + row[0], asked(x).equals(asked(half())) ? 1 : 0, 0);
    }
  }

  public static void main(String[] args) {
    due.sentence("Refused, and nothing changes, the first of these: BAD (a number is not as told, or there is no such thing)");
    everyRow(rams());
    everyRow(tuning());
    everyRow(farms());
    everyRow(ails());
    pairsOfNumbers();
    whatIsSeen();
    due.sentence("STATE (as told), FULL.");
    whatIsFull();
    due.end();
  }
}
