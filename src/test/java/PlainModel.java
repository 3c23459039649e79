import java.math.BigInteger;
import java.util.ArrayList;
import java.util.List;
import java.util.TreeMap;

/**
 * The document once more, written as plainly and as unlike RamBook as can be: nothing is kept that can be
 * reckoned anew, and quotients are big numbers. ModelTest holds RamBook against it.
 */
final class PlainModel {
  static final int BAD = -1, FULL = -3, NONE = -9;

  static final class Animal implements Cloneable {
    int fall, rise, length, bore;
    int weight = 60, stroke = 4, air = 100, worn, choked, leak, kind, snifter, runs = 1;

    Animal copy() {
      try {
        return (Animal) clone();
      } catch (CloneNotSupportedException e) {
        throw new IllegalStateException(e);
      }
    }

    int[] all() {
      return new int[] {fall, rise, length, bore, weight, stroke, air, worn, choked, leak, kind, snifter, runs};
    }

    // null, if it stalls: else tick, speed, waste, up, span
    int[] stroke() {
      List<Integer> speeds = new ArrayList<>();
      speeds.add(0);
      int waste = 0;
      int gain = Math.floorDiv(200 * fall, length);
      for (int t = 1; t <= 400; t++) {
        int old = speeds.get(t - 1);
        speeds.add(old + gain - Math.floorDiv(old * (3 + choked), 100));
        int speed = speeds.get(t);
        waste += Math.floorDiv(speed * bore * (stroke + worn), 100);
        if (Math.floorDiv(speed * speed, 50) >= weight * (stroke + worn)) {
          for (int u = 1; u < t; u++) {
            if (speeds.get(u) <= speeds.get(u - 1)) {
              return null;
            }
          }
          return new int[] {t, speed, waste, lift(speed, waste), t + 4 + rise / 200};
        }
      }
      return null;
    }

    int lift(int speed, int waste) {
      if (speed < rise / 20) {
        return 0;
      }
      int whole = BigInteger.valueOf(waste).multiply(BigInteger.valueOf(fall)).multiply(BigInteger.valueOf(works(kind)))
          .divide(BigInteger.valueOf(100L * rise)).intValueExact();
      int taken = 0;
      while (taken * 20 < whole * leak) {
        taken++;
      }
      return whole - taken;
    }

    int works(int byKind) {
      if (byKind == 0) {
        return 40 + air / 4 - 3 * worn;
      }
      int up = works(byKind - 1);
      return byKind == 1 ? Math.min(80, up + 8) : Math.min(85, up + up / 10) - 2 * choked;
    }

    // beats, waste, up, draws
    int[] hour() {
      int[] beat = stroke();
      if (beat == null) {
        int waste = 36 * bore * (stroke + worn) * fall / 10;
        return new int[] {0, waste, 0, waste};
      }
      int beats = 3600 / beat[4];
      return new int[] {beats, beats * beat[2], beats * beat[3], beats * (beat[2] + beat[3])};
    }
  }

  final List<Animal> rams = new ArrayList<>();
  final int[] springs = new int[12], frosts = new int[12];
  final List<int[]> tunes = new ArrayList<>(), readings = new ArrayList<>();
  List<int[]> items = new ArrayList<>();
  int from, to, room = 50000, held, now, tolBeats = 20, tolUp = 5;
  String draft = "";
  final long[] book = new long[11];
  long trace;

  PlainModel() {
    java.util.Arrays.fill(springs, 20000);
  }

  boolean no(int ram) {
    return ram < 0 || ram >= rams.size();
  }

  static boolean out(long v, long least, long most) {
    return v < least || v > most;
  }

  int ram(int fall, int rise, int length, int bore) {
    if (out(fall, 5, 200) || out(rise, fall + 1, 1000) || out(length, 20, 900) || out(bore, 1, 9)) return BAD;
    if (rams.size() == 4) return FULL;
    Animal a = new Animal();
    a.fall = fall;
    a.rise = rise;
    a.length = length;
    a.bore = bore;
    rams.add(a);
    return rams.size() - 1;
  }

  int set(int ram, int what, int v) {
    if (no(ram) || out(what, 0, 12)) return BAD;
    Animal a = rams.get(ram);
    int was = a.all()[what];
    switch (what) {
      case 0: if (out(v, 5, 200) || v >= a.rise) return BAD; a.fall = v; break;
      case 1: if (v <= a.fall || v > 1000) return BAD; a.rise = v; break;
      case 2: if (out(v, 20, 900)) return BAD; a.length = v; break;
      case 3: if (out(v, 1, 9)) return BAD; a.bore = v; break;
      case 4: if (out(v, 5, 400)) return BAD; a.weight = v; break;
      case 5: if (out(v, 1, 9)) return BAD; a.stroke = v; break;
      case 6: if (out(v, 0, 100)) return BAD; a.air = v; break;
      case 7: if (out(v, 0, 3)) return BAD; a.worn = v; break;
      case 8: if (out(v, 0, 3)) return BAD; a.choked = v; break;
      case 9: if (out(v, 0, 3)) return BAD; a.leak = v; break;
      case 10: if (out(v, 0, 2)) return BAD; a.kind = v; break;
      case 11: if (out(v, 0, 1)) return BAD; a.snifter = v; break;
      default: if (out(v, 0, 1)) return BAD; a.runs = v; break;
    }
    return was;
  }

  int about(int ram, int what) {
    return no(ram) || out(what, 0, 12) ? BAD : rams.get(ram).all()[what];
  }

  int work(int kind, int ram) {
    if (no(ram) || out(kind, 0, 2)) return BAD;
    for (int k = 0, worth = 1; k <= kind; k++, worth *= 10) trace += worth;
    return rams.get(ram).works(kind);
  }

  int beat(int ram, int what) {
    if (no(ram) || out(what, 0, 4)) return BAD;
    int[] b = rams.get(ram).stroke();
    return b == null ? NONE : b[what];
  }

  int hourly(int ram, int what) {
    return no(ram) || out(what, 0, 3) ? BAD : rams.get(ram).hour()[what];
  }

  int spring(int month, int v) {
    if (out(month, 0, 11) || out(v, 0, 1000000)) return BAD;
    int was = springs[month];
    springs[month] = v;
    return was;
  }

  int tuned(int ram, int month, int aim, int what) {
    if (no(ram) || out(month, 0, 11) || out(aim, 0, 1) || out(what, 0, 2)) return BAD;
    List<int[]> able = new ArrayList<>();
    for (int w = 5; w <= 400; w += 5) {
      for (int s = 1; s <= 9; s++) {
        Animal a = rams.get(ram).copy();
        a.weight = w;
        a.stroke = s;
        int[] h = a.hour();
        if (h[0] > 0 && h[2] > 0 && h[3] <= springs[month]) able.add(new int[] {w, s, h[2], h[1]});
      }
    }
    able.sort((p, q) -> {
      int c = aim == 0 ? q[2] - p[2] : Long.compare((long) p[3] * q[2], (long) q[3] * p[2]);
      return c != 0 ? c : p[0] != q[0] ? p[0] - q[0] : p[1] - q[1];
    });
    return able.isEmpty() ? NONE : able.get(0)[what];
  }

  int tune(int weight, int stroke) {
    if (out(weight, 5, 400) || out(stroke, 1, 9)) return BAD;
    if (tunes.size() == 6) return FULL;
    tunes.add(new int[] {weight, stroke});
    return tunes.size() - 1;
  }

  int forget() {
    int n = tunes.size();
    tunes.clear();
    return n;
  }

  // The ways to go on from ram i: number to UP, of those that may be.
  private void ways(int i, int number, int worth, long left, int up, TreeMap<Integer, Integer> all) {
    if (i == rams.size()) {
      all.put(number, up);
      return;
    }
    ways(i + 1, number, worth * 7, left, up, all);
    for (int k = 0; k < tunes.size(); k++) {
      Animal a = rams.get(i).copy();
      a.weight = tunes.get(k)[0];
      a.stroke = tunes.get(k)[1];
      int[] h = a.hour();
      if (h[0] > 0 && h[3] <= left) ways(i + 1, number + (k + 1) * worth, worth * 7, left - h[3], up + h[2], all);
    }
  }

  int side(int month, int what) {
    if (out(month, 0, 11) || out(what, 0, 1)) return BAD;
    TreeMap<Integer, Integer> all = new TreeMap<>();
    ways(0, 0, 1, springs[month], 0, all);
    int most = all.values().stream().max(Integer::compare).get();
    return what == 1 ? most : all.keySet().stream().filter(n -> all.get(n) == most).findFirst().get();
  }

  int take(int number) {
    if (number < 0) return BAD;
    String digits = new StringBuilder(number == 0 ? "" : Integer.toString(number, 7)).reverse().toString();
    if (digits.length() > rams.size()) return BAD;
    for (char c : digits.toCharArray()) if (c - '0' > tunes.size()) return BAD;
    for (int i = 0; i < rams.size(); i++) {
      int d = i < digits.length() ? digits.charAt(i) - '0' : 0;
      rams.get(i).runs = d == 0 ? 0 : 1;
      if (d > 0) {
        rams.get(i).weight = tunes.get(d - 1)[0];
        rams.get(i).stroke = tunes.get(d - 1)[1];
      }
    }
    return 1;
  }

  int frost(int month, int v) {
    if (out(month, 0, 11) || out(v, 0, 23)) return BAD;
    int was = frosts[month];
    frosts[month] = v;
    return was;
  }

  int silence(int a, int b) {
    if (out(a, 0, 24) || out(b, 0, 24) || a > b) return BAD;
    from = a;
    to = b;
    return 1;
  }

  int tank(int what, int v) {
    if (what == 0 && !out(v, 100, 1000000) && held <= v) {
      int was = room;
      room = v;
      return was;
    }
    if (what == 1 && !out(v, 0, room)) {
      int was = held;
      held = v;
      return was;
    }
    return BAD;
  }

  int type(long v, int n) {
    if (out(n, 1, 8)) return BAD;
    if (draft.length() + n > 150) return FULL;
    StringBuilder b = new StringBuilder();
    for (int i = 0; i < n; i++) b.insert(0, (char) (v >>> 8 * i & 255));
    draft += b;
    return draft.length();
  }

  int clear() {
    int n = draft.length();
    draft = "";
    return n;
  }

  // One byte after the other, by the part of an item in which it stands.
  private int fault(List<int[]> told) {
    int part = 0;
    int[] item = new int[4];
    String number = "";
    for (int at = 0; at < draft.length(); at++) {
      char c = draft.charAt(at);
      if (part == 0) {
        if (c != 'f' || told.size() == 12) return at;
        item = new int[4];
        part = 1;
      } else if (part == 1) {
        if (c < '0' || c > '4') return at;
        item[0] = c - '0';
        part = 2;
      } else if (part == 2) {
        if (c != ' ') return at;
        part = 3;
        number = "";
      } else {
        int which = part - 2;
        char behind = "-:;".charAt(part - 3);
        int most = new int[] {23, 24, 9999}[part - 3];
        if (c >= '0' && c <= '9') {
          if (number.equals("0") || number.isEmpty() && c == '0' && part > 3) return at;
          number += c;
          if (Integer.parseInt(number) > most) return at;
          item[which] = Integer.parseInt(number);
          boolean ended = at + 1 == draft.length() || draft.charAt(at + 1) < '0' || draft.charAt(at + 1) > '9';
          if (part == 4 && ended && item[2] <= item[1]) return at;
        } else {
          if (number.isEmpty() || c != behind) return at;
          number = "";
          part = part == 5 ? 0 : part + 1;
          if (part == 0) told.add(item);
        }
      }
    }
    return part == 0 ? -1 : draft.length();
  }

  int rights() {
    List<int[]> told = new ArrayList<>();
    int fault = fault(told);
    if (fault >= 0) return -10 - fault;
    items = told;
    draft = "";
    return items.size();
  }

  int right(int farm, int hour) {
    if (out(farm, 0, 4) || out(hour, 0, 23)) return BAD;
    return items.stream().filter(i -> i[0] == farm && i[1] <= hour && hour < i[2]).mapToInt(i -> i[3]).sum();
  }

  int hours(int n) {
    if (out(n, 1, 720)) return BAD;
    long before = book[4];
    for (int i = 0; i < n; i++) {
      hour();
    }
    return (int) (book[4] - before);
  }

  private void hour() {
    int hour = now % 24, month = now / 720 % 12, left = springs[month];
    List<Animal> beating = new ArrayList<>();
    for (Animal a : rams) {
      if (a.runs == 0 || a.stroke < 3 && hour < frosts[month] || from <= hour && hour < to) continue;
      int[] h = a.hour();
      if (h[3] > left) continue;
      left -= h[3];
      book[0] += h[2];
      book[1] += h[1];
      held += h[2];
      if (h[0] > 0) beating.add(a);
      if (held > room) {
        book[2] += held - room;
        held = room;
      }
    }
    for (int farm = 0; farm < 5; farm++) {
      int litres = right(farm, hour);
      int got = Math.min(litres, held);
      held -= got;
      book[3] += got;
      book[4] += litres - got;
      book[6 + farm] += litres - got;
    }
    for (Animal a : beating) {
      a.air -= 1 + a.leak;
      if (a.air < 0) a.air = 0;
      if (a.snifter == 1 && a.air < 100) a.air++;
    }
    now++;
  }

  long book(int what) {
    return out(what, 0, 10) ? BAD : what == 5 ? held : book[what];
  }

  int read(int ram, int beats, int up) {
    if (no(ram) || beats == NONE && up == NONE) return BAD;
    if (beats != NONE && out(beats, 0, 1000000) || up != NONE && out(up, 0, 1000000)) return BAD;
    if (readings.size() == 12) return FULL;
    readings.add(new int[] {ram, beats, up});
    return readings.size();
  }

  int wipe() {
    int n = readings.size();
    readings.clear();
    return n;
  }

  int tolerance(int what, int v) {
    if (out(what, 0, 1) || out(v, 0, what == 0 ? 500 : 50)) return BAD;
    int was = what == 0 ? tolBeats : tolUp;
    if (what == 0) tolBeats = v;
    else tolUp = v;
    return was;
  }

  int fits(int ram, int cause) {
    if (no(ram) || out(cause, 0, 255)) return BAD;
    Animal a = rams.get(ram).copy();
    a.worn = cause % 4;
    a.choked = cause / 4 % 4;
    a.leak = cause / 16 % 4;
    a.air = new int[] {100, 60, 20, 0}[cause / 64];
    int[] h = a.hour();
    for (int[] r : readings) {
      if (r[0] != ram) continue;
      if (r[1] != NONE && (h[0] < r[1] - tolBeats || h[0] > r[1] + tolBeats)) return 0;
      int slack = (int) (r[2] * (long) tolUp / 100);
      if (r[2] != NONE && (h[2] < r[2] - slack || h[2] > r[2] + slack)) return 0;
    }
    return 1;
  }

  private List<Integer> fitting(int ram) {
    List<Integer> all = new ArrayList<>();
    for (int cause = 0; cause < 256; cause++) if (fits(ram, cause) == 1) all.add(cause);
    return all;
  }

  private static int value(int cause, int what) {
    return new int[] {cause % 4, cause / 4 % 4, cause / 16 % 4, cause / 64}[what];
  }

  int ails(int ram, int what) {
    if (no(ram) || out(what, 0, 2)) return BAD;
    List<Integer> all = fitting(ram);
    if (what == 0) return all.size();
    if (what == 1) return all.isEmpty() ? NONE : all.get(0);
    if (all.size() < 2) return NONE;
    int best = NONE;
    long bestMost = Long.MAX_VALUE;
    for (int w = 0; w < 4; w++) {
      long most = 0;
      for (int v = 0; v < 4; v++) {
        int aspect = w, val = v;
        most = Math.max(most, all.stream().filter(c -> value(c, aspect) == val).count());
      }
      if (most < bestMost) {
        best = w;
        bestMost = most;
      }
    }
    return best;
  }

  int sure(int ram, int what) {
    if (no(ram) || out(what, 0, 3)) return BAD;
    List<Integer> all = fitting(ram);
    boolean same = !all.isEmpty() && all.stream().allMatch(c -> value(c, what) == value(all.get(0), what));
    return same ? value(all.get(0), what) : NONE;
  }

  int count(int what) {
    switch (what) {
      case 0: return rams.size();
      case 1: return tunes.size();
      case 2: return items.size();
      case 3: return readings.size();
      case 4: return now / 720 % 12;
      case 5: return now / 24 % 30;
      case 6: return now % 24;
      case 7: return draft.length();
      default: return BAD;
    }
  }

  long trace() {
    return trace;
  }
}
