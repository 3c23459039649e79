import java.util.Arrays;

/**
 * Hydraulic rams on a spring: how they beat, how they are tuned side by side, the tank and the farms that
 * they serve, and what ails them. The document's words (FALL, TUNED, SHORT ..) are used as it uses them.
 */
public final class RamBook {
  public static final int BAD = -1, STATE = -2, FULL = -3, NONE = -9;

  private static final int MOST_RAMS = 4;
  private static final int MONTHS = 12;
  private static final int DAYS_OF_MONTH = 30;
  private static final int HOURS_OF_DAY = 24;
  private static final int FARMS = 5;

  // What set() and about() tell of a ram, by their numbers.
  private static final int FALL = 0, RISE = 1, LONG = 2, BORE = 3, WEIGHT = 4, STROKE = 5, AIR = 6;
  private static final int WORN = 7, CHOKED = 8, LEAK = 9, KIND = 10, SNIFTER = 11, RUNS = 12;
  private static final int TRAITS = 13;
  // RISE is above FALL, so 6 is the least that it can be.
  private static final int[] LEAST = {5, 6, 20, 1, 5, 1, 0, 0, 0, 0, 0, 0, 0};
  private static final int[] MOST = {200, 1000, 900, 9, 400, 9, 100, 3, 3, 3, 2, 1, 1};

  // Kinds of valves; 0 is the flap, which stands over them.
  private static final int GUIDED = 1, SPRUNG = 2;
  // A kind asks all that stand over it: 1, then 10 and 1, then 100 and 10 and 1.
  private static final int[] TRACE_OF_KIND = {1, 11, 111};

  private static final int CAUSES = 256;
  private static final int[] AIR_OF_PLACE = {100, 60, 20, 0};

  private final Ram[] rams = new Ram[MOST_RAMS];
  private int ramCount = 0;
  // A ram for all questions of the kind "what if", so that none of the real ones is touched.
  private final Ram trial = new Ram();
  private final Seasons seasons = new Seasons();
  private final Tunes tunes = new Tunes();
  private final Rights farmRights = new Rights();
  private final Tank store = new Tank();
  private final Readings readings = new Readings();
  private final Diagnosis diagnosis = new Diagnosis();
  private int nowMonth = 0;
  private int nowDay = 0;
  private int nowHour = 0;
  private long traced = 0;

  public RamBook() {
    for (int i = 0; i < MOST_RAMS; i++) {
      rams[i] = new Ram();
    }
  }

  // ---- rams

  public int ram(int fall, int rise, int length, int bore) {
    boolean told = canBe(FALL, fall) && canBe(RISE, rise) && canBe(LONG, length) && canBe(BORE, bore);
    if (!told || rise <= fall) {
      return BAD;
    }
    if (ramCount >= MOST_RAMS) {
      return FULL;
    }
    Ram made = rams[ramCount];
    made.put(FALL, fall);
    made.put(RISE, rise);
    made.put(LONG, length);
    made.put(BORE, bore);
    ramCount++;
    return ramCount - 1;
  }

  public int set(int ram, int what, int v) {
    if (!isRam(ram) || !canBe(what, v)) {
      return BAD;
    }
    Ram one = rams[ram];
    if (what == FALL && v >= one.trait(RISE) || what == RISE && v <= one.trait(FALL)) {
      return BAD;
    }
    int was = one.trait(what);
    one.put(what, v);
    return was;
  }

  public int about(int ram, int what) {
    if (!isRam(ram) || !within(what, 0, TRAITS - 1)) {
      return BAD;
    }
    return rams[ram].trait(what);
  }

  public int work(int kind, int ram) {
    if (!canBe(KIND, kind) || !isRam(ram)) {
      return BAD;
    }
    traced += TRACE_OF_KIND[kind];
    return rams[ram].workBy(kind);
  }

  public int beat(int ram, int what) {
    if (!isRam(ram) || !within(what, 0, 4)) {
      return BAD;
    }
    Ram one = rams[ram];
    if (one.stalls()) {
      return NONE;
    }
    switch (what) {
      case 0: return one.shutTick();
      case 1: return one.shutSpeed();
      case 2: return one.wasteOfBeat();
      case 3: return one.upOfBeat();
      default: return one.spanOfBeat();
    }
  }

  public int hourly(int ram, int what) {
    if (!isRam(ram) || !within(what, 0, 3)) {
      return BAD;
    }
    Ram one = rams[ram];
    switch (what) {
      case 0: return one.beatsAnHour();
      case 1: return one.wasteAnHour();
      case 2: return one.upAnHour();
      default: return one.drawsAnHour();
    }
  }

  // ---- tuning

  public int spring(int month, int v) {
    if (!isMonth(month) || !within(v, 0, 1000000)) {
      return BAD;
    }
    int was = seasons.springs[month];
    seasons.springs[month] = v;
    return was;
  }

  public int tuned(int ram, int month, int aim, int what) {
    if (!isRam(ram) || !isMonth(month) || !within(aim, 0, 1) || !within(what, 0, 2)) {
      return BAD;
    }
    trial.becomeLike(rams[ram]);
    int bestWeight = NONE;
    int bestStroke = NONE;
    int bestUp = NONE;
    int bestWaste = 0;
    for (int stroke = 1; stroke <= MOST[STROKE]; stroke++) {
      trial.put(STROKE, stroke);
      for (int weight = 5; weight <= MOST[WEIGHT]; weight += 5) {
        trial.put(WEIGHT, weight);
        if (trial.stalls()) {
          // So does the same stroke with more weight.
          break;
        }
        int up = trial.upAnHour();
        int waste = trial.wasteAnHour();
        if (up <= 0 || up + waste > seasons.springs[month]) {
          continue;
        }
        long better = bestUp == NONE ? 1 : advantage(aim, up, waste, bestUp, bestWaste);
        if (better > 0 || better == 0 && weight < bestWeight) {
          bestWeight = weight;
          bestStroke = stroke;
          bestUp = up;
          bestWaste = waste;
        }
      }
    }
    return what == 0 ? bestWeight : what == 1 ? bestStroke : bestUp;
  }

  public int tune(int weight, int stroke) {
    if (!canBe(WEIGHT, weight) || !canBe(STROKE, stroke)) {
      return BAD;
    }
    return tunes.keep(weight, stroke);
  }

  public int forget() {
    int had = tunes.size;
    tunes.size = 0;
    return had;
  }

  public int side(int month, int what) {
    if (!isMonth(month) || !within(what, 0, 1)) {
      return BAD;
    }
    for (int i = 0; i < ramCount; i++) {
      trial.becomeLike(rams[i]);
      tunes.tryOn(i, trial);
    }
    tunes.pick(ramCount, seasons.springs[month]);
    return what == 0 ? tunes.bestNumber : tunes.bestUp;
  }

  public int take(int number) {
    if (!tunes.tellsAll(number, ramCount)) {
      return BAD;
    }
    int rest = number;
    for (int i = 0; i < ramCount; i++) {
      tunes.giveTo(rams[i], rest % Tunes.DIGITS);
      rest /= Tunes.DIGITS;
    }
    return 1;
  }

  public int frost(int month, int v) {
    if (!isMonth(month) || !within(v, 0, HOURS_OF_DAY - 1)) {
      return BAD;
    }
    int was = seasons.frosts[month];
    seasons.frosts[month] = v;
    return was;
  }

  public int silence(int from, int to) {
    if (!within(from, 0, HOURS_OF_DAY) || !within(to, from, HOURS_OF_DAY)) {
      return BAD;
    }
    seasons.silentFrom = from;
    seasons.silentTo = to;
    return 1;
  }

  // ---- the tank, farms

  public int tank(int what, int v) {
    if (what == 0) {
      return store.changeRoom(v);
    }
    return what == 1 ? store.changeHeld(v) : BAD;
  }

  public int type(long v, int n) {
    if (!within(n, 1, 8)) {
      return BAD;
    }
    return farmRights.write(v, n);
  }

  public int clear() {
    int had = farmRights.draftLength;
    farmRights.draftLength = 0;
    return had;
  }

  public int rights() {
    return farmRights.tellAnew();
  }

  public int right(int farm, int hour) {
    if (!within(farm, 0, FARMS - 1) || !within(hour, 0, HOURS_OF_DAY - 1)) {
      return BAD;
    }
    return farmRights.litresOf(farm, hour);
  }

  public int hours(int n) {
    if (!within(n, 1, 720)) {
      return BAD;
    }
    long before = store.lacked;
    for (int i = 0; i < n; i++) {
      runRams();
      for (int farm = 0; farm < FARMS; farm++) {
        store.serve(farm, farmRights.litresOf(farm, nowHour));
      }
      goToNextHour();
    }
    return (int) (store.lacked - before);
  }

  public long book(int what) {
    switch (what) {
      case 0: return store.lifted;
      case 1: return store.wasted;
      case 2: return store.spilt;
      case 3: return store.taken;
      case 4: return store.lacked;
      case 5: return store.held;
      default: return within(what, 6, 5 + FARMS) ? store.lackedBy[what - 6] : BAD;
    }
  }

  // ---- what ails a ram

  public int read(int ram, int beats, int up) {
    boolean told = isReadable(beats) && isReadable(up) && (beats != NONE || up != NONE);
    if (!isRam(ram) || !told) {
      return BAD;
    }
    return readings.keep(ram, beats, up);
  }

  public int wipe() {
    int had = readings.size;
    readings.size = 0;
    return had;
  }

  public int tolerance(int what, int v) {
    if (what == 0 && within(v, 0, 500)) {
      int was = readings.toleranceBeats;
      readings.toleranceBeats = v;
      return was;
    }
    if (what == 1 && within(v, 0, 50)) {
      int was = readings.toleranceUp;
      readings.toleranceUp = v;
      return was;
    }
    return BAD;
  }

  public int fits(int ram, int cause) {
    if (!isRam(ram) || !within(cause, 0, CAUSES - 1)) {
      return BAD;
    }
    trial.becomeLike(rams[ram]);
    trial.suffer(cause);
    return readings.agreeWith(ram, trial) ? 1 : 0;
  }

  public int ails(int ram, int what) {
    if (!isRam(ram) || !within(what, 0, 2)) {
      return BAD;
    }
    tryAllCauses(ram);
    switch (what) {
      case 0: return diagnosis.fitting;
      case 1: return diagnosis.least;
      default: return diagnosis.nextLook();
    }
  }

  public int sure(int ram, int what) {
    if (!isRam(ram) || !within(what, 0, Diagnosis.ASPECTS - 1)) {
      return BAD;
    }
    tryAllCauses(ram);
    return diagnosis.onlyValueOf(what);
  }

  public int count(int what) {
    switch (what) {
      case 0: return ramCount;
      case 1: return tunes.size;
      case 2: return farmRights.items;
      case 3: return readings.size;
      case 4: return nowMonth;
      case 5: return nowDay;
      case 6: return nowHour;
      case 7: return farmRights.draftLength;
      default: return BAD;
    }
  }

  public long trace() {
    return traced;
  }

  // ---- helpers

  private static boolean within(int v, int least, int most) {
    return v >= least && v <= most;
  }

  private static boolean canBe(int what, int v) {
    return within(what, 0, TRAITS - 1) && within(v, LEAST[what], MOST[what]);
  }

  private static boolean isMonth(int month) {
    return within(month, 0, MONTHS - 1);
  }

  private static boolean isReadable(int v) {
    return v == NONE || within(v, 0, 1000000);
  }

  private boolean isRam(int ram) {
    return within(ram, 0, ramCount - 1);
  }

  // Above 0: better than the best so far; 0: as good. Products instead of quotients, to be exact.
  private static long advantage(int aim, int up, int waste, int bestUp, int bestWaste) {
    return aim == 0 ? up - bestUp : (long) bestWaste * up - (long) waste * bestUp;
  }

  private void runRams() {
    int left = seasons.springs[nowMonth];
    for (int i = 0; i < ramCount; i++) {
      Ram one = rams[i];
      if (one.trait(RUNS) == 0 || seasons.stop(one, nowMonth, nowHour)) {
        continue;
      }
      int up = one.upAnHour();
      int waste = one.wasteAnHour();
      if (up + waste > left) {
        continue;
      }
      left -= up + waste;
      store.receive(up, waste);
      // Nothing later in this hour asks for this ram's AIR, so it may be lost here.
      one.loseAir();
    }
    store.spillOver();
  }

  private void goToNextHour() {
    nowHour++;
    if (nowHour == HOURS_OF_DAY) {
      nowHour = 0;
      nowDay++;
    }
    if (nowDay == DAYS_OF_MONTH) {
      nowDay = 0;
      nowMonth = (nowMonth + 1) % MONTHS;
    }
  }

  private void tryAllCauses(int ram) {
    diagnosis.begin();
    trial.becomeLike(rams[ram]);
    // WORN and CHOKED alone change how a beat swings: with them outside it is reckoned 16 times, not 256.
    for (int swing = 0; swing < 16; swing++) {
      for (int rest = 0; rest < 16; rest++) {
        int cause = swing + 16 * rest;
        trial.suffer(cause);
        if (readings.agreeWith(ram, trial)) {
          diagnosis.admit(cause);
        }
      }
    }
  }

  /** A ram as it is told to be, and the beat that follows from it. */
  private static final class Ram {
    private static final int MOST_TICKS = 400;

    final int[] traits = new int[TRAITS];
    // The beat is reckoned when it is asked for, and kept until something changes that it hangs on.
    boolean reckoned = false;
    boolean stalling = false;
    int tick = 0;
    int speed = 0;
    int waste = 0;
    int span = 0;
    int beats = 0;

    Ram() {
      System.arraycopy(LEAST, 0, traits, 0, TRAITS);
      traits[WEIGHT] = 60;
      traits[STROKE] = 4;
      traits[AIR] = 100;
      traits[RUNS] = 1;
    }

    int trait(int what) {
      return within(what, 0, TRAITS - 1) ? traits[what] : BAD;
    }

    void put(int what, int v) {
      if (!within(what, 0, TRAITS - 1) || traits[what] == v) {
        return;
      }
      traits[what] = v;
      if (what != AIR && what != LEAK) {
        reckoned = false;
      }
    }

    void becomeLike(Ram other) {
      System.arraycopy(other.traits, 0, traits, 0, TRAITS);
      reckoned = false;
    }

    void suffer(int cause) {
      put(WORN, cause & 3);
      put(CHOKED, cause >> 2 & 3);
      put(LEAK, cause >> 4 & 3);
      put(AIR, AIR_OF_PLACE[cause >> 6 & 3]);
    }

    int workBy(int kind) {
      int hundredths = 40 + traits[AIR] / 4 - 3 * traits[WORN];
      if (kind >= GUIDED) {
        hundredths = Math.min(hundredths + 8, 80);
      }
      if (kind >= SPRUNG) {
        hundredths = Math.min(hundredths + hundredths / 10, 85) - 2 * traits[CHOKED];
      }
      return hundredths;
    }

    boolean stalls() {
      reckon();
      return stalling;
    }

    int shutTick() {
      reckon();
      return tick;
    }

    int shutSpeed() {
      reckon();
      return speed;
    }

    int wasteOfBeat() {
      reckon();
      return waste;
    }

    int upOfBeat() {
      reckon();
      if (stalling || speed < traits[RISE] / 20) {
        return 0;
      }
      long lifted = share((long) waste * traits[FALL] * workBy(traits[KIND]), 100L * traits[RISE]);
      long leaked = (lifted * traits[LEAK] + 19) / 20;
      return (int) (lifted - leaked);
    }

    int spanOfBeat() {
      reckon();
      return span;
    }

    int beatsAnHour() {
      reckon();
      return beats;
    }

    int wasteAnHour() {
      if (stalls()) {
        return 36 * traits[BORE] * (traits[STROKE] + traits[WORN]) * traits[FALL] / 10;
      }
      return beatsAnHour() * waste;
    }

    int upAnHour() {
      return beatsAnHour() * upOfBeat();
    }

    int drawsAnHour() {
      return wasteAnHour() + upAnHour();
    }

    void loseAir() {
      if (stalls()) {
        return;
      }
      int air = Math.max(traits[AIR] - 1 - traits[LEAK], 0);
      put(AIR, Math.min(air + traits[SNIFTER], MOST[AIR]));
    }

    // What is divided by here is never 0, but the machine can't see that.
    private static long share(long v, long divisor) {
      return divisor > 0 ? v / divisor : 0;
    }

    private void reckon() {
      if (reckoned) {
        return;
      }
      reckoned = true;
      stalling = true;
      speed = 0;
      waste = 0;
      beats = 0;
      int gain = (int) share(200 * traits[FALL], traits[LONG]);
      int drag = 3 + traits[CHOKED];
      int opening = traits[STROKE] + traits[WORN];
      int flow = traits[BORE] * opening;
      int heft = traits[WEIGHT] * opening;
      for (tick = 1; tick <= MOST_TICKS; tick++) {
        int before = speed;
        speed = before + gain - before * drag / 100;
        waste += speed * flow / 100;
        if (speed * speed / 50 >= heft) {
          stalling = false;
          span = tick + 4 + traits[RISE] / 200;
          beats = (int) share(3600, span);
          return;
        }
        if (speed <= before) {
          return;
        }
      }
    }
  }

  /** What the months and the hours of a day bring to all rams. */
  private static final class Seasons {
    final int[] springs = new int[MONTHS];
    final int[] frosts = new int[MONTHS];
    int silentFrom = 0;
    int silentTo = 0;

    Seasons() {
      Arrays.fill(springs, 20000);
    }

    boolean stop(Ram one, int month, int hour) {
      boolean silent = hour >= silentFrom && hour < silentTo;
      return silent || hour < frosts[month] && one.trait(STROKE) < 3;
    }
  }

  /** Pairs of WEIGHT and STROKE, and the best way to give them to rams side by side. */
  private static final class Tunes {
    static final int MOST_TUNES = 6;
    // Digit 0 stands still, k and 1 is tune k.
    static final int DIGITS = MOST_TUNES + 1;

    final int[] weights = new int[MOST_TUNES];
    final int[] strokes = new int[MOST_TUNES];
    int size = 0;
    // Of ram i with digit d, at i * DIGITS + d; draws are NONE where it stalls.
    final int[] draws = new int[MOST_RAMS * DIGITS];
    final int[] ups = new int[MOST_RAMS * DIGITS];
    int bestNumber = 0;
    int bestUp = 0;

    int keep(int weight, int stroke) {
      if (size >= MOST_TUNES) {
        return FULL;
      }
      weights[size] = weight;
      strokes[size] = stroke;
      size++;
      return size - 1;
    }

    void tryOn(int ram, Ram copy) {
      int row = ram * DIGITS;
      for (int k = 0; k < size; k++) {
        copy.put(WEIGHT, weights[k]);
        copy.put(STROKE, strokes[k]);
        draws[row + k + 1] = copy.stalls() ? NONE : copy.drawsAnHour();
        ups[row + k + 1] = copy.upAnHour();
      }
    }

    // Upwards from 0 and only for more UP, so that of several the least number stays.
    void pick(int ramCount, int spring) {
      bestNumber = 0;
      bestUp = 0;
      int end = numbers(ramCount);
      for (int number = 1; number < end; number++) {
        int up = upOf(number, ramCount, spring);
        if (up > bestUp) {
          bestNumber = number;
          bestUp = up;
        }
      }
    }

    boolean tellsAll(int number, int ramCount) {
      if (!within(number, 0, numbers(ramCount) - 1)) {
        return false;
      }
      int rest = number;
      for (int i = 0; i < ramCount; i++) {
        if (rest % DIGITS > size) {
          return false;
        }
        rest /= DIGITS;
      }
      return true;
    }

    void giveTo(Ram one, int digit) {
      if (!within(digit, 1, size)) {
        one.put(RUNS, 0);
        return;
      }
      one.put(WEIGHT, weights[digit - 1]);
      one.put(STROKE, strokes[digit - 1]);
      one.put(RUNS, 1);
    }

    private static int numbers(int ramCount) {
      int end = 1;
      for (int i = 0; i < ramCount; i++) {
        end *= DIGITS;
      }
      return end;
    }

    // UP in all by a number, or NONE, if it may not be.
    private int upOf(int number, int ramCount, int spring) {
      int left = spring;
      int up = 0;
      int rest = number;
      for (int i = 0; i < ramCount; i++) {
        int digit = rest % DIGITS;
        rest /= DIGITS;
        int at = i * DIGITS + digit;
        if (digit > size || draws[at] == NONE || draws[at] > left) {
          return NONE;
        }
        left -= draws[at];
        up += ups[at];
      }
      return up;
    }
  }

  /** THE DRAFT, and the RIGHTS that were told by one. */
  private static final class Rights {
    static final int MOST_BYTES = 150;
    static final int MOST_ITEMS = 12;

    final byte[] draft = new byte[MOST_BYTES];
    int draftLength = 0;
    int items = 0;
    // Of farm f in hour h, at f * HOURS_OF_DAY + h.
    final int[] litres = new int[FARMS * HOURS_OF_DAY];
    // The same while a draft is read: it may turn out to have a FAULT.
    final int[] litresTold = new int[FARMS * HOURS_OF_DAY];
    int place = 0;
    boolean faulty = false;

    int write(long v, int n) {
      if (draftLength + n > MOST_BYTES) {
        return FULL;
      }
      for (int i = n - 1; i >= 0; i--) {
        draft[draftLength] = (byte) (v >> 8 * i);
        draftLength++;
      }
      return draftLength;
    }

    int litresOf(int farm, int hour) {
      return litres[farm * HOURS_OF_DAY + hour];
    }

    int tellAnew() {
      Arrays.fill(litresTold, 0);
      place = 0;
      faulty = false;
      int found = 0;
      while (found < MOST_ITEMS && place < draftLength && !faulty) {
        readItem();
        found++;
      }
      // What is left behind so many items is the f of one more, if nothing ahead of it was wrong.
      if (faulty || place < draftLength) {
        return -10 - place;
      }
      System.arraycopy(litresTold, 0, litres, 0, litres.length);
      items = found;
      draftLength = 0;
      return found;
    }

    private void readItem() {
      readSign('f');
      int farm = readNumber(0, FARMS - 1);
      readSign(' ');
      int from = readNumber(0, HOURS_OF_DAY - 1);
      readSign('-');
      int to = readNumber(1, HOURS_OF_DAY);
      if (!faulty && to <= from) {
        faulty = true;
        place--;
      }
      readSign(':');
      int amount = readNumber(1, 9999);
      readSign(';');
      for (int h = from; h < to && !faulty; h++) {
        litresTold[farm * HOURS_OF_DAY + h] += amount;
      }
    }

    // Once there is a fault nothing more is read, so that place stays at it.
    private void readSign(char sign) {
      if (faulty) {
        return;
      }
      if (place < draftLength && draft[place] == sign) {
        place++;
      } else {
        faulty = true;
      }
    }

    private int readNumber(int least, int most) {
      if (faulty) {
        return 0;
      }
      int v = digitHere();
      if (v < 0 || v > most || v == 0 && least > 0) {
        faulty = true;
        return 0;
      }
      place++;
      // A number that begins with 0 is 0: no digit can stand behind it.
      for (; place < draftLength && v > 0; place++) {
        int digit = digitHere();
        if (digit < 0) {
          return v;
        }
        v = 10 * v + digit;
        if (v > most) {
          faulty = true;
          return 0;
        }
      }
      return v;
    }

    private int digitHere() {
      if (place >= draftLength || draft[place] < '0' || draft[place] > '9') {
        return NONE;
      }
      return draft[place] - '0';
    }
  }

  /** THE TANK, and THE BOOK of all that came and went. */
  private static final class Tank {
    int room = 50000;
    int held = 0;
    long lifted = 0;
    long wasted = 0;
    long spilt = 0;
    long taken = 0;
    long lacked = 0;
    final long[] lackedBy = new long[FARMS];

    int changeRoom(int v) {
      if (!within(v, 100, 1000000) || v < held) {
        return BAD;
      }
      int was = room;
      room = v;
      return was;
    }

    int changeHeld(int v) {
      if (!within(v, 0, room)) {
        return BAD;
      }
      int was = held;
      held = v;
      return was;
    }

    void receive(int up, int waste) {
      held += up;
      lifted += up;
      wasted += waste;
    }

    void spillOver() {
      int above = Math.max(held - room, 0);
      held -= above;
      spilt += above;
    }

    void serve(int farm, int litres) {
      int given = Math.min(litres, held);
      held -= given;
      taken += given;
      lacked += litres - given;
      lackedBy[farm] += litres - given;
    }
  }

  /** What was read of the rams, and how near to it a ram must come. */
  private static final class Readings {
    static final int MOST_READINGS = 12;

    final int[] ramsRead = new int[MOST_READINGS];
    final int[] beatsRead = new int[MOST_READINGS];
    final int[] upsRead = new int[MOST_READINGS];
    int size = 0;
    int toleranceBeats = 20;
    int toleranceUp = 5;

    int keep(int ram, int beats, int up) {
      if (size >= MOST_READINGS) {
        return FULL;
      }
      ramsRead[size] = ram;
      beatsRead[size] = beats;
      upsRead[size] = up;
      size++;
      return size;
    }

    boolean agreeWith(int ram, Ram supposed) {
      int beats = supposed.beatsAnHour();
      int up = supposed.upAnHour();
      for (int i = 0; i < size; i++) {
        if (ramsRead[i] == ram && !(isNearBeats(i, beats) && isNearUp(i, up))) {
          return false;
        }
      }
      return true;
    }

    private boolean isNearBeats(int i, int beats) {
      return beatsRead[i] == NONE || Math.abs(beats - beatsRead[i]) <= toleranceBeats;
    }

    private boolean isNearUp(int i, int up) {
      return upsRead[i] == NONE || Math.abs(up - upsRead[i]) <= upsRead[i] * toleranceUp / 100;
    }
  }

  /** The causes that fit a ram, tallied by the values of WORN, CHOKED, LEAK and AIR's place. */
  private static final class Diagnosis {
    static final int ASPECTS = 4;
    static final int VALUES = 4;

    // Of aspect a with value v, at a * VALUES + v.
    final int[] tallies = new int[ASPECTS * VALUES];
    int fitting = 0;
    int least = NONE;

    void begin() {
      Arrays.fill(tallies, 0);
      fitting = 0;
      least = NONE;
    }

    void admit(int cause) {
      fitting++;
      if (least == NONE || cause < least) {
        least = cause;
      }
      for (int aspect = 0; aspect < ASPECTS; aspect++) {
        tallies[aspect * VALUES + (cause >> 2 * aspect & 3)]++;
      }
    }

    int onlyValueOf(int aspect) {
      for (int value = 0; value < VALUES; value++) {
        if (fitting > 0 && tallies[aspect * VALUES + value] == fitting) {
          return value;
        }
      }
      return NONE;
    }

    int nextLook() {
      if (fitting <= 1) {
        return NONE;
      }
      int look = 0;
      for (int aspect = 1; aspect < ASPECTS; aspect++) {
        if (greatest(aspect) < greatest(look)) {
          look = aspect;
        }
      }
      return look;
    }

    private int greatest(int aspect) {
      int most = 0;
      for (int value = 0; value < VALUES; value++) {
        most = Math.max(most, tallies[aspect * VALUES + value]);
      }
      return most;
    }
  }
}
