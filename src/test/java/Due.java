/** Counts and prints the calls of a test whose answer is not the one that is due. */
final class Due {
  static final int NONE = -1, UNKNOWN = -1000000001, OUTSIDE = -1000000002, NOT = -1000000003, FULL = -1000000004;
  /** A street that most tests use: marks 1, 3, 1, 0, 6, 0 and a watchman of two minutes who sees one door far. */
  static final String USUAL = "s6;c0 5 2 0;c1 7 3 2;c2 8 9 0;m0 1;m1 3;m2 1;m4 6;r8;w2 1;";
  private static int wrong = 0;
  private static int calls = 0;

  private Due() {
  }

  static void is(String call, int got, int want) {
    calls++;
    if (got != want) {
      wrong++;
      System.out.println(call + " answered " + got + ", due is " + want);
    }
  }

  static void fail(String what) {
    wrong++;
    System.out.println(what);
  }

  static ChalkedDoors feed(ChalkedDoors x, String text) {
    for (int i = 0; i < text.length(); i++) {
      is("feed " + i + " of \"" + text + "\"", x.feed(text.charAt(i)), i + 1);
    }
    return x;
  }

  /** A new object whose street is told by the text, which has no fault. */
  static ChalkedDoors street(String text) {
    ChalkedDoors x = feed(new ChalkedDoors(), text);
    if (x.street() < 0) {
      fail("street() found a fault in \"" + text + "\"");
    }
    return x;
  }

  static void end() {
    System.out.println(wrong == 0 ? calls + " answers are as due" : wrong + " answers are not as due");
    if (wrong != 0) {
      System.exit(1);
    }
  }
}
