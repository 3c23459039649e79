/** Promises 16 to 22: the tank, the draft and the rights told by it, hours that go, the book. */
public final class FarmsTest {
  private static final int BAD = -1, FULL = -3;
  private static final Due due = new Due("FarmsTest");

  private static void tank() {
    RamBook x = new RamBook();
    due.is("tank(1, 50001)", x.tank(1, 50001), BAD);
    due.is("tank(1, 50000)", x.tank(1, 50000), 0);
    due.is("tank(0, 49999)", x.tank(0, 49999), BAD);
    due.is("tank(0, 1000001)", x.tank(0, 1000001), BAD);
    due.is("tank(0, 1000000)", x.tank(0, 1000000), 50000);
    due.is("tank(1, 1000000)", x.tank(1, 1000000), 50000);
    due.is("tank(1, -1)", x.tank(1, -1), BAD);
    due.is("book(5)", x.book(5), 1000000);
    due.is("tank(1, 100)", x.tank(1, 100), 1000000);
    due.is("tank(0, 99)", x.tank(0, 99), BAD);
    due.is("tank(0, 100)", x.tank(0, 100), 1000000);
    due.is("tank(1, 101)", x.tank(1, 101), BAD);
    due.is("tank(2, 100)", x.tank(2, 100), BAD);
    due.is("tank(-1, 100)", x.tank(-1, 100), BAD);
    due.is("tank(1, 0)", x.tank(1, 0), 100);
    due.is("tank(0, 99), empty", x.tank(0, 99), BAD);
    due.is("tank(0, -100)", x.tank(0, -100), BAD);
    due.is("book(0), not by tank()", x.book(0), 0);
    due.is("book(2), not by tank()", x.book(2), 0);
  }

  private static void draft() {
    RamBook x = new RamBook();
    due.is("type(v, 0)", x.type(1, 0), BAD);
    due.is("type(v, 9)", x.type(1, 9), BAD);
    due.is("type(v, -1)", x.type(1, -1), BAD);
    due.is("nothing yet", x.count(7), 0);
    // bytes above those that are asked for do not come
    due.is("type(.., 1)", x.type(0x3132333435363766L, 1), 1);
    due.is("type(.., 8)", x.type(0x30203233_2d32343aL, 8), 9);
    due.is("type(.., 2)", x.type(0x373b, 2), 11);
    due.is("rights()", x.rights(), 1);
    due.is("right(0, 23)", x.right(0, 23), 7);
    due.is("empty then", x.count(7), 0);
    for (int i = 1; i <= 18; i++) {
      due.is("piece " + i, x.type(-1L, 8), 8 * i);
    }
    due.is("seven more than fit", x.type(0, 7), FULL);
    due.is("BAD ahead of FULL", x.type(0, 9), BAD);
    due.is("count(7)", x.count(7), 144);
    due.is("six", x.type(0, 6), 150);
    due.is("one more", x.type(0, 1), FULL);
    due.is("bytes of 255", x.rights(), -10);
    due.is("clear()", x.clear(), 150);
    due.is("clear() again", x.clear(), 0);
    due.is("type after clear()", x.type('f', 1), 1);
    due.is("rights stay", x.right(0, 23), 7);
  }

  private static void fault(String text, int place) {
    RamBook x = new RamBook();
    Due.type(x, "f1 2-4:9;");
    x.rights();
    Due.type(x, text);
    due.is("rights() of '" + text + "'", x.rights(), -10 - place);
    due.is("count(7) after '" + text + "'", x.count(7), text.length());
    due.is("count(2) after '" + text + "'", x.count(2), 1);
    due.is("right(1, 2) after '" + text + "'", x.right(1, 2), 9);
  }

  private static void faults() {
    String whole = "f0 7-9:1;";
    for (int end = 1; end < whole.length(); end++) {
      fault(whole.substring(0, end), end);
      fault(whole + whole.substring(0, end), 9 + end);
    }
    for (int at = 0; at < whole.length(); at++) {
      fault(whole.substring(0, at) + "x" + whole.substring(at + 1), at);
      fault(whole.substring(0, at) + (char) (whole.charAt(at) + 128) + whole.substring(at + 1), at);
    }
    fault("F0 7-9:1;", 0);
    fault(" f0 7-9:1;", 0);
    fault("f5 7-9:1;", 1);
    fault("f00 7-9:1;", 2);
    fault("f12 7-9:1;", 2);
    fault("f0  7-9:1;", 3);
    fault("f0 00-9:1;", 4);
    fault("f0 07-9:1;", 4);
    fault("f0 24-24:1;", 4);
    fault("f0 100-24:1;", 5);
    fault("f0 99-24:1;", 4);
    fault("f0 7-0:1;", 5);
    fault("f0 0-0:1;", 5);
    fault("f0 7-09:1;", 5);
    fault("f0 7-25:1;", 6);
    fault("f0 7-240:1;", 7);
    fault("f0 7-7:1;", 5);
    fault("f0 7-6:1;", 5);
    fault("f0 12-11:1;", 7);
    fault("f0 23-23:1;", 7);
    fault("f0 23-3:1;", 6);
    fault("f0 7-30:1;", 6);
    fault("f0 7-9:0;", 7);
    fault("f0 7-9:01;", 7);
    fault("f0 7-9:10000;", 11);
    fault("f0 7-9:99990;", 11);
    fault("f0 7-9:-1;", 7);
    fault("f0 7-9:1;;", 9);
    fault("f0 7-9:1; ", 9);
    fault("f0 7-9:1;f0 7-9:1:", 17);
    StringBuilder many = new StringBuilder();
    for (int i = 0; i < 12; i++) {
      many.append("f2 0-1:1;");
    }
    fault(many + "f2 0-1:1;", 108);
    fault(many + "f", 108);
    fault(many + "x", 108);
    fault(many.substring(0, 107) + ":f2 0-1:1;", 107);
  }

  private static void rights() {
    RamBook x = new RamBook();
    StringBuilder many = new StringBuilder();
    for (int i = 0; i < 12; i++) {
      many.append("f2 0-1:1;");
    }
    Due.type(x, many.toString());
    due.is("twelve items", x.rights(), 12);
    due.is("count(2)", x.count(2), 12);
    due.is("together", x.right(2, 0), 12);
    due.is("up to, not with", x.right(2, 1), 0);
    due.is("another farm", x.right(1, 0), 0);
    Due.type(x, "f0 0-24:9999;f4 23-24:1;f4 9-10:10;f4 9-24:200;f3 10-20:3;");
    due.is("anew", x.rights(), 5);
    due.is("the old are gone", x.right(2, 0), 0);
    due.is("right(0, 0)", x.right(0, 0), 9999);
    due.is("right(0, 23)", x.right(0, 23), 9999);
    due.is("right(4, 8)", x.right(4, 8), 0);
    due.is("right(4, 9)", x.right(4, 9), 210);
    due.is("right(4, 10)", x.right(4, 10), 200);
    due.is("right(4, 23)", x.right(4, 23), 201);
    due.is("right(3, 9)", x.right(3, 9), 0);
    due.is("right(3, 10)", x.right(3, 10), 3);
    due.is("right(3, 19)", x.right(3, 19), 3);
    due.is("right(3, 20)", x.right(3, 20), 0);
    due.is("right(5, 0)", x.right(5, 0), BAD);
    due.is("right(-1, 0)", x.right(-1, 0), BAD);
    due.is("right(0, 24)", x.right(0, 24), BAD);
    due.is("right(0, -1)", x.right(0, -1), BAD);
    due.is("an empty draft", x.rights(), 0);
    due.is("no rights", x.right(0, 0), 0);
    due.is("no items", x.count(2), 0);
  }

  // The ram lifts 2570 an HOUR and wastes 23644; the little AIR that is lost here does not change its UP.
  private static void hoursAndBook() {
    RamBook x = new RamBook();
    x.ram(30, 150, 120, 4);
    x.spring(0, 26214);
    x.tank(0, 3000);
    Due.type(x, "f0 0-1:1000;f3 0-2:2000;f4 1-3:2500;");
    x.rights();
    due.is("hour 0", x.hours(1), 430);
    due.is("taken in order, 1", x.book(6), 0);
    due.is("taken in order, 2", x.book(9), 430);
    due.is("UP", x.book(0), 2570);
    due.is("WASTE", x.book(1), 23644);
    due.is("taken", x.book(3), 2570);
    due.is("AIR", x.about(0, 6), 99);
    due.is("hour 1", x.hours(1), 1930);
    due.is("SHORT of 4", x.book(10), 1930);
    due.is("hour 2", x.hours(1), 0);
    due.is("70 are left", x.book(5), 70);
    due.is("hour 3", x.hours(1), 0);
    due.is("2640 are there", x.book(5), 2640);
    due.is("hour 4", x.hours(1), 0);
    due.is("full", x.book(5), 3000);
    due.is("SPILT", x.book(2), 2210);
    due.is("SHORT", x.book(4), 2360);
    due.is("UP of five", x.book(0), 5 * 2570);
    due.is("WASTE of five", x.book(1), 5 * 23644);
    due.is("taken of five", x.book(3), 2570 * 2 + 2500);
    due.is("SHORT of 1", x.book(7), 0);
    due.is("SHORT of 2", x.book(8), 0);
    due.is("hour", x.count(6), 5);
    x.spring(0, 26213);
    due.is("a litre too little", x.hours(1), 0);
    due.is("no UP", x.book(0), 5 * 2570);
    due.is("no AIR lost", x.about(0, 6), 95);
    due.is("book(11)", x.book(11), BAD);
    due.is("book(-1)", x.book(-1), BAD);
    due.is("hours(0)", x.hours(0), BAD);
    due.is("hours(721)", x.hours(721), BAD);
    due.is("hours(-5)", x.hours(-5), BAD);
    due.is("hour, as it was", x.count(6), 6);
  }

  private static void inOrder() {
    RamBook x = new RamBook();
    // 0 and 2 DRAW 26214 each; 1 stalls and wastes 36 * 4 * 4 * 7 by 10
    x.ram(30, 150, 120, 4);
    x.ram(7, 100, 900, 4);
    x.ram(30, 150, 120, 4);
    due.is("ram 1 stalls", x.beat(1, 0), -9);
    x.spring(0, 26214 + 402);
    x.hours(1);
    due.is("UP of ram 0", x.book(0), 2570);
    due.is("WASTE of ram 0 alone", x.book(1), 23644);
    due.is("AIR of 0, 1, 2", x.about(0, 6) + x.about(1, 6) + x.about(2, 6), 299);
    x.spring(0, 26214 + 403);
    x.hours(1);
    due.is("with the stalling one's", x.book(1), 2 * 23644 + 403);
    due.is("a stalling one loses no AIR", x.about(1, 6), 100);
    x.set(0, 12, 0);
    x.hours(1);
    due.is("ram 2 in place of 0", x.about(2, 6), 99);
    due.is("ram 0 was off", x.about(0, 6), 98);
    // a ram that finds too little leaves it to those behind it
    x.set(0, 12, 1);
    x.spring(0, 403);
    x.hours(1);
    due.is("the stalling one alone", x.book(1), 3 * 23644 + 3 * 403);
    x.set(1, 12, 0);
    x.spring(0, 2 * 26214);
    x.hours(1);
    due.is("two at once", x.book(0), 3 * 2570 + 2 * 2570);
  }

  private static void air() {
    RamBook x = new RamBook();
    x.ram(30, 150, 120, 4);
    x.spring(0, 1000000);
    x.set(0, 9, 3);
    x.hours(1);
    due.is("LEAK 3: 4 lost", x.about(0, 6), 96);
    x.set(0, 11, 1);
    x.hours(1);
    due.is("SNIFTER: 1 back", x.about(0, 6), 93);
    x.set(0, 6, 2);
    x.hours(1);
    due.is("0 at least, then 1 back", x.about(0, 6), 1);
    x.set(0, 11, 0);
    x.hours(1);
    due.is("0 at least", x.about(0, 6), 0);
    x.set(0, 11, 1);
    x.set(0, 9, 0);
    x.set(0, 6, 100);
    x.hours(3);
    due.is("100 stays with a SNIFTER", x.about(0, 6), 100);
    x.set(0, 6, 0);
    x.hours(1);
    due.is("0 and 1 back", x.about(0, 6), 1);
    x.set(0, 12, 0);
    x.hours(4);
    due.is("no SNIFTER's gift without a beat", x.about(0, 6), 1);
  }

  private static void calendar() {
    RamBook x = new RamBook();
    x.hours(23);
    due.is("hour 23", x.count(6), 23);
    due.is("day 0", x.count(5), 0);
    x.hours(1);
    due.is("hour 0", x.count(6), 0);
    due.is("day 1", x.count(5), 1);
    x.hours(29 * 24 - 1);
    due.is("day 29", x.count(5), 29);
    due.is("month 0", x.count(4), 0);
    x.hours(1);
    due.is("day 0 again", x.count(5), 0);
    due.is("month 1", x.count(4), 1);
    for (int i = 0; i < 10; i++) {
      x.hours(720);
    }
    due.is("month 11", x.count(4), 11);
    x.hours(719);
    due.is("month 11 still", x.count(4), 11);
    x.hours(1);
    due.is("month 0 again", x.count(4), 0);
    due.is("its day", x.count(5), 0);
    due.is("its hour", x.count(6), 0);
  }

  // The MONTH's SPRING counts hour by hour, in the middle of a call too.
  private static void monthsInOneCall() {
    RamBook x = new RamBook();
    x.ram(30, 150, 120, 4);
    x.set(0, 11, 1);
    x.spring(1, 26214);
    x.hours(719);
    due.is("month 0 has too little", x.book(0), 0);
    x.hours(3);
    due.is("two hours of month 1", x.book(0), 2 * 2570);
  }

  public static void main(String[] args) {
    tank();
    draft();
    faults();
    rights();
    hoursAndBook();
    inOrder();
    air();
    calendar();
    monthsInOneCall();
    due.end();
  }
}
