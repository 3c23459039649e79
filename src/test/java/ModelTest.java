import java.util.Random;

/** Long runs of chosen calls on RamBook and on PlainModel, all answers and all that can be asked held equal. */
public final class ModelTest {
  private static final int RUNS = 400;
  private static final int CALLS = 100;

  private final Random random;
  private final RamBook x = new RamBook();
  private final PlainModel m = new PlainModel();
  private final String name;
  private int calls = 0;

  private ModelTest(int seed) {
    random = new Random(seed);
    name = "run " + seed + " call ";
  }

  private int wrong = 0;

  private void same(String call, long got, long want) {
    calls++;
    if (got != want) {
      wrong++;
      System.out.println(name + calls + ": " + call + " answered " + got + ", due is " + want);
    }
  }

  // Mostly within, sometimes at an edge or one beyond it, seldom far off.
  private int some(int least, int most) {
    int way = random.nextInt(40);
    switch (way) {
      case 0: return least;
      case 1: return most;
      case 2: return random.nextInt(3) == 0 ? least - 1 : least;
      case 3: return random.nextInt(3) == 0 ? most + 1 : most;
      case 4: return random.nextInt(8) == 0 ? Integer.MAX_VALUE : least;
      case 5: return random.nextInt(8) == 0 ? Integer.MIN_VALUE : most;
      default: return least + random.nextInt(most - least + 1);
    }
  }

  private int aRam() {
    return some(0, Math.max(0, m.rams.size() - 1));
  }

  private void ram() {
    int fall = some(5, random.nextBoolean() ? 60 : 200);
    int rise = some(Math.max(6, Math.min(fall, 990) + 1), random.nextBoolean() ? 1000 : Math.max(300, Math.min(fall, 990) + 1));
    int length = some(20, 900);
    int bore = some(1, 9);
    same("ram(" + fall + ", " + rise + ", " + length + ", " + bore + ")", x.ram(fall, rise, length, bore), m.ram(fall, rise, length, bore));
  }

  private void set() {
    int[] least = {5, 6, 20, 1, 5, 1, 0, 0, 0, 0, 0, 0, 0};
    int[] most = {200, 1000, 900, 9, 400, 9, 100, 3, 3, 3, 2, 1, 1};
    int ram = aRam(), what = some(0, 12);
    int at = Math.floorMod(what, 13);
    int v = some(least[at], most[at]);
    same("set(" + ram + ", " + what + ", " + v + ")", x.set(ram, what, v), m.set(ram, what, v));
    same("about(" + ram + ", " + what + ")", x.about(ram, what), m.about(ram, what));
  }

  private void look() {
    int ram = aRam(), what = some(0, 4);
    same("beat(" + ram + ", " + what + ")", x.beat(ram, what), m.beat(ram, what));
    same("hourly(" + ram + ", " + what + ")", x.hourly(ram, what), m.hourly(ram, what));
    int kind = some(0, 2);
    same("work(" + kind + ", " + ram + ")", x.work(kind, ram), m.work(kind, ram));
  }

  private void spring() {
    int month = random.nextBoolean() ? m.count(4) : some(0, 11);
    int v = some(0, new int[] {2000, 20000, 100000, 1000000}[random.nextInt(4)]);
    if (!m.rams.isEmpty() && random.nextBoolean()) {
      v = m.hourly(random.nextInt(m.rams.size()), 3) - random.nextInt(2);
    }
    same("spring(" + month + ", " + v + ")", x.spring(month, v), m.spring(month, v));
  }

  private void tuned() {
    int ram = aRam(), month = some(0, 11), aim = some(0, 1), what = some(0, 2);
    same("tuned(" + ram + ", " + month + ", " + aim + ", " + what + ")", x.tuned(ram, month, aim, what), m.tuned(ram, month, aim, what));
  }

  private void tune() {
    int weight = some(5, 400), stroke = some(1, 9);
    same("tune(" + weight + ", " + stroke + ")", x.tune(weight, stroke), m.tune(weight, stroke));
    if (random.nextInt(10) == 0) {
      same("forget()", x.forget(), m.forget());
    }
  }

  private void side() {
    int month = some(0, 11), what = some(0, 1);
    same("side(" + month + ", " + what + ")", x.side(month, what), m.side(month, what));
    int number = random.nextBoolean() ? m.side(0, 0) : some(0, 2400);
    same("take(" + number + ")", x.take(number), m.take(number));
  }

  private void season() {
    int month = random.nextBoolean() ? m.count(4) : some(0, 11), v = some(0, 23);
    same("frost(" + month + ", " + v + ")", x.frost(month, v), m.frost(month, v));
    int from = some(0, 24), to = random.nextInt(3) == 0 ? from : some(0, 24);
    same("silence(" + from + ", " + to + ")", x.silence(from, to), m.silence(from, to));
  }

  private void tank() {
    int what = some(0, 1);
    int v = random.nextInt(3) == 0 ? m.held + random.nextInt(3) - 1 : some(0, random.nextBoolean() ? 5000 : 1000000);
    same("tank(" + what + ", " + v + ")", x.tank(what, v), m.tank(what, v));
  }

  private String item() {
    int from = random.nextInt(24), to = from + 1 + random.nextInt(24 - from);
    if (random.nextInt(15) == 0) {
      to = random.nextInt(30);
    }
    int litres = random.nextInt(new int[] {10, 200, 10000, 10050}[random.nextInt(4)]) + random.nextInt(2);
    return "f" + random.nextInt(random.nextInt(10) == 0 ? 10 : 5) + " " + from + "-" + to + ":" + litres + ";";
  }

  private String draft() {
    StringBuilder text = new StringBuilder();
    int items = random.nextInt(random.nextInt(4) == 0 ? 17 : 5);
    for (int i = 0; i < items; i++) {
      text.append(items > 10 ? "f" + random.nextInt(5) + " " + random.nextInt(5) + "-" + (5 + random.nextInt(5)) + ":7;" : item());
    }
    if (text.length() > 0 && random.nextInt(2) == 0) {
      int at = random.nextInt(text.length());
      String signs = "f -:;0123456789fx\u00e9";
      char sign = signs.charAt(random.nextInt(signs.length()));
      switch (random.nextInt(4)) {
        case 0: text.setCharAt(at, sign); break;
        case 1: text.insert(at, sign); break;
        case 2: text.deleteCharAt(at); break;
        default: text.setLength(at); break;
      }
    }
    return text.toString();
  }

  private void rights() {
    String text = draft();
    int at = 0;
    while (at < text.length()) {
      int n = Math.min(text.length() - at, 1 + random.nextInt(8));
      long v = random.nextLong();
      for (int i = 0; i < n; i++) {
        v = v << 8 | text.charAt(at + i);
      }
      same("type(" + v + ", " + n + ")", x.type(v, n), m.type(v, n));
      at += n;
    }
    if (random.nextInt(8) == 0) {
      int n = some(1, 8);
      same("type(0, " + n + ")", x.type(0, n), m.type(0, n));
    }
    String draft = m.draft;
    int answer = m.rights();
    same("rights() of " + draft, x.rights(), answer);
    if (answer < 0 && random.nextInt(4) > 0) {
      same("clear()", x.clear(), m.clear());
    }
  }

  private void hours() {
    int n = random.nextInt(4) == 0 ? some(1, 720) : some(1, 30);
    same("hours(" + n + ")", x.hours(n), m.hours(n));
  }

  private void read() {
    int ram = aRam(), beats = some(0, 1000), up = some(0, 5000);
    if (!m.no(ram)) {
      PlainModel.Animal a = m.rams.get(ram).copy();
      a.worn = random.nextInt(4);
      a.choked = random.nextInt(4);
      a.leak = random.nextInt(4);
      int[] h = a.hour();
      beats = h[0] + random.nextInt(50) - 25;
      int slack = Math.max(1, h[2] / 20);
      up = h[2] + random.nextInt(2 * slack + 1) - slack;
    }
    int gap = random.nextInt(5);
    beats = gap == 0 || gap == 4 && random.nextInt(6) == 0 ? -9 : beats;
    up = gap == 1 || beats == -9 && random.nextInt(6) == 0 ? -9 : up;
    same("read(" + ram + ", " + beats + ", " + up + ")", x.read(ram, beats, up), m.read(ram, beats, up));
    if (random.nextInt(4) == 0) {
      same("wipe()", x.wipe(), m.wipe());
    }
  }

  private void ails() {
    int ram = aRam(), what = some(0, 2), about = some(0, 3), cause = some(0, 255);
    same("fits(" + ram + ", " + cause + ")", x.fits(ram, cause), m.fits(ram, cause));
    same("ails(" + ram + ", " + what + ")", x.ails(ram, what), m.ails(ram, what));
    same("sure(" + ram + ", " + about + ")", x.sure(ram, about), m.sure(ram, about));
    int which = some(0, 1), v = some(0, which == 1 ? 50 : 500);
    if (random.nextInt(3) == 0) {
      same("tolerance(" + which + ", " + v + ")", x.tolerance(which, v), m.tolerance(which, v));
    }
  }

  private void step() {
    switch (random.nextInt(16)) {
      case 0: ram(); break;
      case 1: case 2: case 3: set(); break;
      case 4: look(); break;
      case 5: case 6: spring(); break;
      case 7: if (random.nextInt(3) == 0) tuned(); break;
      case 8: tune(); break;
      case 9: side(); break;
      case 10: season(); break;
      case 11: tank(); break;
      case 12: rights(); break;
      case 13: hours(); break;
      case 14: read(); break;
      default: ails(); break;
    }
  }

  private void askAll() {
    for (int what = -1; what <= 11; what++) {
      same("book(" + what + ")", x.book(what), m.book(what));
      same("count(" + what + ")", x.count(what), m.count(what));
    }
    for (int ram = 0; ram < 4; ram++) {
      for (int what = 0; what <= 12; what++) {
        same("about(" + ram + ", " + what + ")", x.about(ram, what), m.about(ram, what));
      }
    }
    for (int farm = 0; farm < 5; farm++) {
      for (int hour = 0; hour < 24; hour++) {
        same("right(" + farm + ", " + hour + ")", x.right(farm, hour), m.right(farm, hour));
      }
    }
    same("trace()", x.trace(), m.trace());
  }

  private int run() {
    ram();
    while (calls < CALLS) {
      step();
    }
    askAll();
    return wrong;
  }

  public static void main(String[] args) {
    int runs = args.length > 0 ? Integer.parseInt(args[0]) : RUNS;
    int first = args.length > 1 ? Integer.parseInt(args[1]) : 1;
    Due due = new Due("ModelTest");
    for (int seed = first; seed < first + runs; seed++) {
      due.is("wrong answers in run " + seed, new ModelTest(seed).run(), 0);
    }
    due.end();
  }
}
