/** Promises 23 to 26: forged, keys, note, first. */
public final class GangTest {
  public static void main(String[] args) {
    forgeries();
    fittingKeys();
    notes();
    firsts();
    firstsAgainstSpreading();
    Due.end();
  }

  private static void forgeries() {
    ChalkedDoors x = Due.street(Due.USUAL);
    int[] marks = {1, 3, 1, 0, 6, 0};
    for (int a = 0; a < 16; a++) {
      for (int b = 0; b < 16; b++) {
        int want = 0;
        for (int d = 0; d < 6; d++) {
          if (marks[d] != 0 && marks[d] != (a * d + b) % 16) {
            want += 1 << d;
          }
        }
        Due.is("forged(" + a + ", " + b + ")", x.forged(a, b), want);
      }
    }
    Due.is("forged(16, 0)", x.forged(16, 0), Due.OUTSIDE);
    Due.is("forged(0, 16)", x.forged(0, 16), Due.OUTSIDE);
    Due.is("forged(-1, 0)", x.forged(-1, 0), Due.OUTSIDE);
    Due.is("forged(0, -1)", x.forged(0, -1), Due.OUTSIDE);
    Due.is("forged(0, 0) without doors", new ChalkedDoors().forged(0, 0), 0);
  }

  private static void fittingKeys() {
    ChalkedDoors x = Due.street(Due.USUAL);
    Due.is("keys(0, 0)", x.keys(0, 0), 256);
    Due.is("keys(0, 1)", x.keys(0, 1), 0);
    Due.is("keys(1, 0)", x.keys(1, 0), 16);
    Due.is("keys(1, 1)", x.keys(1, 1), 1);
    Due.is("keys(5, 0)", x.keys(5, 0), 2);
    Due.is("keys(5, 1)", x.keys(5, 1), 1);
    Due.is("keys(3, 1)", x.keys(3, 1), 33);
    Due.is("keys(40, 0), without marks", x.keys(40, 0), 2);
    Due.is("keys(40, 1)", x.keys(40, 1), 0);
    Due.is("keys(24, 1)", x.keys(24, 1), 6 * 16 + 14);
    Due.is("keys(63, 0)", x.keys(63, 0), 0);
    Due.is("keys(63, 1)", x.keys(63, 1), Due.NONE);
    Due.is("keys(64, 2)", x.keys(64, 2), Due.UNKNOWN);
    Due.is("keys(-1, 0)", x.keys(-1, 0), Due.UNKNOWN);
    Due.is("keys(1, 2)", x.keys(1, 2), Due.OUTSIDE);
    Due.is("keys(1, -1)", x.keys(1, -1), Due.OUTSIDE);
    Due.is("keys(1, 0) without doors", new ChalkedDoors().keys(1, 0), Due.UNKNOWN);
  }

  private static void notes() {
    ChalkedDoors x = Due.street(Due.USUAL);
    Due.is("note(6, 31, true)", x.note(6, 31, true), Due.UNKNOWN);
    Due.is("note(-1, 0, true)", x.note(-1, 0, true), Due.UNKNOWN);
    Due.is("note(0, 31, true)", x.note(0, 31, true), Due.OUTSIDE);
    Due.is("note(0, -1, true)", x.note(0, -1, true), Due.OUTSIDE);
    for (int k = 1; k <= 10; k++) {
      Due.is("note(5, 30, true)", x.note(5, 30, true), k);
    }
    Due.is("note(5, 30, true) at 10", x.note(5, 30, true), Due.FULL);
    Due.is("note(5, 31, true) at 10", x.note(5, 31, true), Due.OUTSIDE);
    Due.is("note(6, 30, true) at 10", x.note(6, 30, true), Due.UNKNOWN);
    Due.is("told(10)", x.told(10), 10);
  }

  private static void firsts() {
    ChalkedDoors x = Due.street("s3;");
    Due.is("first(-1)", x.first(-1), 93);
    Due.is("first(-2)", x.first(-2), 7);
    Due.is("first(0)", x.first(0), 0);
    Due.is("first(2)", x.first(2), 2);
    Due.is("first(3)", x.first(3), 100);
    Due.is("first(92)", x.first(92), 3002);
    Due.is("first(93)", x.first(93), Due.NONE);
    Due.is("first(-3)", x.first(-3), Due.NONE);
    Due.is("first(MIN)", x.first(Integer.MIN_VALUE), Due.NONE);
    x.note(0, 5, true);
    x.note(2, 6, false);
    // door 0 in nights 5 alone (2 nights further it is at door 2), door 1 in none
    Due.is("first(-1), noted", x.first(-1), 1);
    Due.is("first(0), noted", x.first(0), 500);
    Due.is("first(-2), noted", x.first(-2), 1);
    Due.is("first(-1) without doors", new ChalkedDoors().first(-1), 0);
    Due.is("first(-2) without doors", new ChalkedDoors().first(-2), 0);
    Due.is("first(0) without doors", new ChalkedDoors().first(0), Due.NONE);
  }

  private static void firstsAgainstSpreading() {
    for (int doors = 1; doors <= 14; doors++) {
      ChalkedDoors x = Due.street("s" + doors + ";");
      int[][] noted = {{doors / 2, 9 + doors, 1}, {doors - 1, 12, doors > 3 ? 0 : 1}, {0, 3 + doors / 2, 0}};
      for (int[] n : noted) {
        x.note(n[0], n[1], n[2] == 1);
      }
      int found = 0;
      int set = 0;
      for (int g = 0; g <= 30; g++) {
        for (int d = 0; d < doors; d++) {
          if (fits(doors, d, g, noted)) {
            Due.is("first(" + found + ") of " + doors, x.first(found), 100 * g + d);
            found++;
            set |= 1 << d;
          }
        }
      }
      Due.is("first(" + found + ") of " + doors, x.first(found), Due.NONE);
      Due.is("first(-1) of " + doors, x.first(-1), found);
      Due.is("first(-2) of " + doors, x.first(-2), set);
    }
  }

  /** The fashion goes from door to door, night by night. */
  private static boolean fits(int doors, int first, int g, int[][] noted) {
    boolean[] chalked = new boolean[doors];
    for (int night = 0; night <= 30; night++) {
      boolean[] before = chalked.clone();
      for (int d = 0; d < doors; d++) {
        chalked[d] |= d > 0 && before[d - 1] || d + 1 < doors && before[d + 1];
      }
      if (night == g) {
        chalked[first] = true;
      }
      for (int[] n : noted) {
        if (n[1] == night && chalked[n[0]] != (n[2] == 1)) {
          return false;
        }
      }
    }
    return true;
  }
}
