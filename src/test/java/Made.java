/** Objects as the tests want them. */
final class Made {
  private Made() {
  }

  /** A RamBook with one ram; behind its four numbers come pairs of what and v for set(). */
  static RamBook ram(int fall, int rise, int length, int bore, int... pairs) {
    RamBook x = new RamBook();
    x.ram(fall, rise, length, bore);
    for (int i = 0; i + 1 < pairs.length; i += 2) {
      x.set(0, pairs[i], pairs[i + 1]);
    }
    return x;
  }

  /** The ram that most tests know: GAIN 50, 514 BEATS an HOUR, UP 2570, WASTE 23644; water enough in month 0. */
  static RamBook plain(int... pairs) {
    RamBook x = ram(30, 150, 120, 4, pairs);
    x.spring(0, 1000000);
    return x;
  }

  /** One whose RIGHTS were told by a text. */
  static RamBook rights(String text) {
    RamBook x = new RamBook();
    Due.type(x, text);
    x.rights();
    return x;
  }
}
