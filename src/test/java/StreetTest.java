/** Promises 1 to 7: a new object, feed, street, fault, told, chalk, door. */
public final class StreetTest {
  public static void main(String[] args) {
    newObject();
    constants();
    letters();
    faults();
    goodTexts();
    olderLetters();
    faultChangesNothing();
    streetBeginsAnew();
    asked();
    Due.end();
  }

  private static void newObject() {
    ChalkedDoors x = new ChalkedDoors();
    for (int what = 0; what < 12; what++) {
      Due.is("new told(" + what + ")", x.told(what), what == 2 ? 4 : 0);
    }
    Due.is("new fault()", x.fault(), Due.NONE);
    Due.is("new chalk(0, 0)", x.chalk(0, 0), Due.UNKNOWN);
    Due.is("new door(0, 0)", x.door(0, 0), Due.UNKNOWN);
    Due.is("new seed(5)", x.seed(5), 0);
    Due.is("new goBack(0)", x.goBack(0), Due.NOT);
  }

  private static void constants() {
    Due.is("NONE", ChalkedDoors.NONE, Due.NONE);
    Due.is("UNKNOWN", ChalkedDoors.UNKNOWN, Due.UNKNOWN);
    Due.is("OUTSIDE", ChalkedDoors.OUTSIDE, Due.OUTSIDE);
    Due.is("NOT", ChalkedDoors.NOT, Due.NOT);
    Due.is("FULL", ChalkedDoors.FULL, Due.FULL);
  }

  private static void letters() {
    ChalkedDoors x = new ChalkedDoors();
    Due.is("feed(-1)", x.feed(-1), Due.OUTSIDE);
    Due.is("feed(256)", x.feed(256), Due.OUTSIDE);
    Due.is("feed(0)", x.feed(0), 1);
    Due.is("feed(255)", x.feed(255), 2);
    Due.is("told(5)", x.told(5), 2);
    Due.is("street() of 0, 255", x.street(), -11);
    Due.is("told(5) behind a fault", x.told(5), 0);
    for (int i = 1; i <= 200; i++) {
      Due.is("feed(32)", x.feed(32), i);
    }
    Due.is("feed(32) at 200", x.feed(32), Due.FULL);
    Due.is("feed(256) at 200", x.feed(256), Due.OUTSIDE);
    Due.is("told(5) at 200", x.told(5), 200);
    Due.is("street() of blanks", x.street(), 0);
    Due.is("fault() of blanks", x.fault(), Due.NONE);
    for (int i = 0; i < 200; i++) {
      x.feed(i == 0 ? 's' : ' ');
    }
    Due.is("street() that ends early", x.street(), -11);
    Due.is("fault() at the end", x.fault(), 200);
  }

  private static void fault(String text, int number, int at) {
    ChalkedDoors x = Due.feed(new ChalkedDoors(), text);
    Due.is("street() of \"" + text + "\"", x.street(), -10 - number);
    Due.is("fault() of \"" + text + "\"", x.fault(), at);
    Due.is("told(5) behind \"" + text + "\"", x.told(5), 0);
    Due.is("told(0) behind \"" + text + "\"", x.told(0), 0);
  }

  private static void faults() {
    fault("x", 1, 0);
    fault("S2;", 1, 0);
    fault(" r1;", 1, 1);
    fault("m0 0;", 1, 0);
    fault("w1 1;", 1, 0);
    fault(";", 1, 0);
    fault("5", 1, 0);
    fault("1234", 1, 0);
    fault("s", 1, 1);
    fault("s  ", 1, 3);
    fault("s;", 1, 1);
    fault("s2", 1, 2);
    fault("s2 3;", 1, 3);
    fault("s2 1234;", 1, 3);
    fault("s2;;", 1, 3);
    fault("s2;\t", 1, 3);
    fault("s2\t;", 1, 2);
    fault("s-1;", 1, 1);
    fault("s2;c0 0 0;", 1, 9);
    fault("s2;c0 0 0 0 0;", 1, 12);
    fault("s2;c0 0 0x0;", 1, 9);
    fault("s2;m0;", 1, 5);
    fault("s2;w1;", 1, 5);
    fault("s2;r;", 1, 4);
    fault("s2;ss3;", 3, 3);
    fault("s0;", 2, 1);
    fault("s15;", 2, 1);
    fault("s 15", 2, 2);
    fault("s0002;", 2, 1);
    fault("s12345678901234567890;", 2, 1);
    fault("s4294967297;", 2, 1);
    fault("s2;c3 0 0 0;", 2, 4);
    fault("s2;c0 9 0 0;", 2, 6);
    fault("s2;c0 8 21 0;", 2, 8);
    fault("s2;c0 8 20 8;", 2, 11);
    fault("s2;c0123;", 2, 4);
    fault("s2;c0 0 0 0;m2 0;", 2, 13);
    fault("s2;c0 0 0 0;m0 2;", 2, 15);
    fault("s2;m0 1;c0 0 0 0;", 2, 6);
    fault("s2;c0 0 0 0;c0 0 0 0;c0 0 0 0;c0 0 0 0;m0 16;", 2, 42);
    fault("s2;r9;", 2, 4);
    fault("s2;w0 0;", 2, 4);
    fault("s2;w10 0;", 2, 4);
    fault("s2;w9 14;", 2, 6);
    fault("s2;s3;", 3, 3);
    fault("s1;s1;", 3, 3);
    fault("s2;s99;", 3, 3);
    fault("s2;r0; r0;", 3, 7);
    fault("s2;r4;r4;", 3, 6);
    fault("s2;w1 0;w1 0;", 3, 8);
    fault("s2;c0 0 0 0;c0 0 0 0;c0 0 0 0;c0 0 0 0;c", 3, 39);
    fault("s2;m0 0;m0 0;", 4, 9);
    fault("s2;m1 0;m0 0;m 01 9999;", 4, 15);
    fault("s2;m0 0;m0x", 4, 9);
    fault("s2;m0 0;m0000 0;", 2, 9);
    fault("s2;m0 0;m2 0;", 2, 9);
  }

  private static void good(String text, int doors) {
    ChalkedDoors x = Due.feed(new ChalkedDoors(), text);
    Due.is("street() of \"" + text + "\"", x.street(), doors);
    Due.is("fault() of \"" + text + "\"", x.fault(), Due.NONE);
    Due.is("told(0) of \"" + text + "\"", x.told(0), doors);
  }

  /** What an older, longer text left behind is not read. */
  private static void olderLetters() {
    ChalkedDoors x = Due.street("s2;r8;w2 2;");
    Due.feed(x, "s2");
    Due.is("street() of a shorter text", x.street(), -11);
    Due.is("fault() of a shorter text", x.fault(), 2);
    Due.feed(x, "s1;");
    Due.is("street() behind it", x.street(), 1);
    Due.feed(x, "s3;");
    Due.is("street() behind that", x.street(), 3);
    Due.is("told(2)", x.told(2), 4);
    Due.is("told(3)", x.told(3), 0);
    Due.is("told(4)", x.told(4), 0);
  }

  private static void goodTexts() {
    good("", 0);
    good(" ", 0);
    good("s1;", 1);
    good("s14;", 14);
    good(" s 014 ; ", 14);
    good("s2;r8;r".substring(0, 6), 2);
    good("s2;c2 8 20 7;c002 008 020 007;c0 0 0 0;c0 0 0 0;m0 15;m1 015;r0;w9 13;", 2);
    good("s2;w1 0;m1 0;c1 1 1 1;m0 1;", 2);
  }

  private static void faultChangesNothing() {
    ChalkedDoors x = Due.street(Due.USUAL);
    x.mark(3, 2);
    x.hide(3, 1, true);
    x.note(0, 0, true);
    x.write(0, 1);
    x.keep(1);
    Due.feed(x, "s2;c0 0 0 0;r1;w1 1;m0 1;x");
    Due.is("street() with a fault", x.street(), -11);
    int[] want = {6, 3, 8, 2, 1, 0, 0, 12, 7, 1, 1, 1};
    for (int what = 0; what < want.length; what++) {
      Due.is("told(" + what + ") behind a fault", x.told(what), want[what]);
    }
    Due.is("door(3, 0) behind a fault", x.door(3, 0), 4);
    Due.is("goBack(1) behind a fault", x.goBack(1), 1);
    Due.is("fault() behind goBack", x.fault(), 25);
    Due.feed(x, "s6;");
    Due.is("street() again", x.street(), 6);
    Due.is("fault() behind a good one", x.fault(), Due.NONE);
  }

  private static void streetBeginsAnew() {
    ChalkedDoors x = Due.street(Due.USUAL);
    x.mark(3, 2);
    x.hide(3, 1, true);
    x.note(0, 0, true);
    x.write(0, 1);
    x.seed(77);
    x.keep(0);
    Due.feed(x, "s3;c0 1 1 1;m2 1;");
    Due.is("street() anew", x.street(), 3);
    int[] want = {3, 1, 4, 0, 0, 0, 0, 0, 1, 0, 0, 0};
    for (int what = 0; what < want.length; what++) {
      Due.is("told(" + what + ") anew", x.told(what), want[what]);
    }
    Due.is("door(0, 0) anew", x.door(0, 0), 0);
    Due.is("door(2, 0) anew", x.door(2, 0), 1);
    Due.is("door(3, 0) anew", x.door(3, 0), Due.UNKNOWN);
    Due.is("goBack(0) anew", x.goBack(0), Due.NOT);
    Due.is("seed(1) anew", x.seed(1), 77);
    Due.is("street() of nothing", x.street(), 0);
    Due.is("told(0) of nothing", x.told(0), 0);
    Due.is("told(1) of nothing", x.told(1), 0);
    Due.is("told(8) of nothing", x.told(8), 0);
  }

  private static void asked() {
    ChalkedDoors x = Due.street("s2;c0 7 20 7;c1 7 3 2;c2 8 9 0;m1 5;");
    int[][] chalks = {{0, 7, 20, 7, 7}, {1, 7, 3, 2, 3}, {2, 8, 9, 0, 0}};
    for (int c = 0; c < 3; c++) {
      for (int what = 0; what < 5; what++) {
        Due.is("chalk(" + c + ", " + what + ")", x.chalk(c, what), chalks[c][what]);
      }
    }
    Due.is("chalk(3, 0)", x.chalk(3, 0), Due.UNKNOWN);
    Due.is("chalk(-1, 9)", x.chalk(-1, 9), Due.UNKNOWN);
    Due.is("chalk(0, 5)", x.chalk(0, 5), Due.OUTSIDE);
    Due.is("chalk(0, -1)", x.chalk(0, -1), Due.OUTSIDE);
    Due.is("told(12)", x.told(12), Due.OUTSIDE);
    Due.is("told(-1)", x.told(-1), Due.OUTSIDE);
    x.hide(1, 1, true);
    Due.is("door(1, 0)", x.door(1, 0), 5);
    Due.is("door(1, 1)", x.door(1, 1), 2);
    Due.is("door(0, 1)", x.door(0, 1), 0);
    Due.is("door(2, 0)", x.door(2, 0), Due.UNKNOWN);
    Due.is("door(-1, 7)", x.door(-1, 7), Due.UNKNOWN);
    Due.is("door(0, 2)", x.door(0, 2), Due.OUTSIDE);
    Due.is("door(0, -1)", x.door(0, -1), Due.OUTSIDE);
  }
}
