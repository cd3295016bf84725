/** Promises 8 to 12: mark, wipe, hide, copy, night. */
public final class DoneTest {
  public static void main(String[] args) {
    marks();
    hidden();
    copies();
    copiedToBothSides();
    nights();
    draws();
    nightRefusals();
    Due.end();
  }

  private static void marks() {
    ChalkedDoors x = Due.street(Due.USUAL);
    Due.is("mark(3, 0)", x.mark(3, 0), 2);
    Due.is("mark(3, 2)", x.mark(3, 2), 11);
    Due.is("mark(3, 2) again", x.mark(3, 2), Due.NOT);
    Due.is("told(7)", x.told(7), 11);
    Due.is("door(3, 0)", x.door(3, 0), 5);
    Due.is("wipe(3, 0)", x.wipe(3, 0), 4);
    Due.is("wipe(3, 0) again", x.wipe(3, 0), Due.NOT);
    Due.is("wipe(3, 2), carved", x.wipe(3, 2), 0);
    Due.is("told(7) behind wipe", x.told(7), 11);
    int[][] strange = {{6, 0}, {-1, 0}, {0, 3}, {0, -1}, {14, 31}, {Integer.MIN_VALUE, Integer.MAX_VALUE}};
    for (int[] s : strange) {
      Due.is("mark of " + s[0] + ", " + s[1], x.mark(s[0], s[1]), Due.UNKNOWN);
      Due.is("wipe of " + s[0] + ", " + s[1], x.wipe(s[0], s[1]), Due.UNKNOWN);
      Due.is("hide of " + s[0] + ", " + s[1], x.hide(s[0], s[1], true), Due.UNKNOWN);
    }
    Due.is("told(8)", x.told(8), 6);
  }

  private static void hidden() {
    ChalkedDoors x = Due.street(Due.USUAL);
    Due.is("hide(0, 0, false), not there", x.hide(0, 0, false), 0);
    Due.is("hide(0, 0, true)", x.hide(0, 0, true), 0);
    Due.is("hide(0, 0, true) again", x.hide(0, 0, true), 1);
    Due.is("told(7)", x.told(7), 2);
    Due.is("told(9)", x.told(9), 1);
    Due.is("wipe(0, 0)", x.wipe(0, 0), 0);
    Due.is("door(0, 1)", x.door(0, 1), 1);
    Due.is("mark(0, 0), hidden too", x.mark(0, 0), 4);
    Due.is("hide(0, 0, false)", x.hide(0, 0, false), 1);
    Due.is("hide(0, 0, false) again", x.hide(0, 0, false), 0);
    Due.is("told(7) in the end", x.told(7), 4);
    Due.is("door(0, 0)", x.door(0, 0), 1);
  }

  private static void copies() {
    ChalkedDoors x = Due.street(Due.USUAL);
    x.hide(1, 2, true);
    Due.is("copy(1, 1)", x.copy(1, 1), 15);
    Due.is("copy(1, 1) again", x.copy(1, 1), 15);
    int[] want = {3, 3, 3, 0, 6, 0};
    for (int d = 0; d < 6; d++) {
      Due.is("door(" + d + ", 0)", x.door(d, 0), want[d]);
      Due.is("door(" + d + ", 1)", x.door(d, 1), d == 1 ? 4 : 0);
    }
    Due.is("copy(3, 13), nothing to put", x.copy(3, 13), 15);
    Due.is("told(8)", x.told(8), 0);
    Due.is("copy(6, 0)", x.copy(6, 0), Due.UNKNOWN);
    Due.is("copy(-1, 1)", x.copy(-1, 1), Due.UNKNOWN);
    Due.is("copy(0, 0)", x.copy(0, 0), Due.OUTSIDE);
    Due.is("copy(0, 14)", x.copy(0, 14), Due.OUTSIDE);
  }

  private static void copiedToBothSides() {
    ChalkedDoors x = Due.street("s14;c0 0 1 0;m7 1;");
    Due.is("copy(7, 6)", x.copy(7, 6), 12);
    Due.is("door(0, 0)", x.door(0, 0), 0);
    Due.is("door(1, 0)", x.door(1, 0), 1);
    Due.is("door(13, 0)", x.door(13, 0), 1);
    Due.is("copy(13, 13)", x.copy(13, 13), 13);
    Due.is("told(8)", x.told(8), 14);
  }

  private static void nights() {
    ChalkedDoors dry = Due.street("s3;c0 8 1 0;m0 1;m2 1;r0;");
    dry.hide(1, 0, true);
    Due.is("night(99), dry", dry.night(99), 99);
    Due.is("told(8), dry", dry.told(8), 2);
    ChalkedDoors wet = Due.street("s3;c0 8 1 0;c1 8 0 0;c2 8 0 0;c1 1 0 0;m0 15;m1 15;m2 15;r8;");
    wet.hide(1, 0, true);
    Due.is("night(99), wet", wet.night(99), 99);
    Due.is("door(1, 0), wet: carved ones and oil that hardly washes", wet.door(1, 0), 12);
    Due.is("door(1, 1), wet", wet.door(1, 1), 1);
    Due.is("told(7), wet", wet.told(7), 1);
    ChalkedDoors children = Due.street("s14;c2 0 20 7;r0;");
    Due.is("night(99), children", children.night(99), 99);
    Due.is("night(99), children", children.night(99), 198);
    Due.is("told(8), children", children.told(8), 14);
    Due.is("told(7): children cost nothing", children.told(7), 0);
  }

  /** The draws one by one, with the seed read back behind each night. */
  private static void draws() {
    ChalkedDoors x = Due.street("s2;c0 4 0 0;c2 8 0 3;m0 3;m1 2;r4;");
    long seed = 12345;
    x.seed((int) seed);
    int[] marks = {3, 2};
    for (int night = 1; night <= 60; night++) {
      seed = next(seed);
      if (seed / 65536 % 8 < 4) {
        for (int d = 0; d < 2; d++) {
          if ((marks[d] & 1) != 0) {
            seed = next(seed);
            if (seed / 65536 % 8 < 4) {
              marks[d] &= 2;
            }
          }
          if ((marks[d] & 2) != 0) {
            seed = next(seed);
          }
        }
      }
      for (int d = 0; d < 2; d++) {
        seed = next(seed);
        if (seed / 65536 % 64 < 3) {
          marks[d] |= 2;
        }
      }
      Due.is("night(1)", x.night(1), night);
      Due.is("door(0, 0) behind night " + night, x.door(0, 0), marks[0]);
      Due.is("door(1, 0) behind night " + night, x.door(1, 0), marks[1]);
      Due.is("seed behind night " + night, x.seed((int) seed), (int) seed);
      if (night % 10 == 0) {
        marks[0] |= 1;
        x.mark(0, 0);
      }
    }
  }

  private static long next(long seed) {
    return (seed * 1103515245L + 12345L) % 2147483648L;
  }

  private static void nightRefusals() {
    ChalkedDoors none = new ChalkedDoors();
    Due.is("night(0) without doors", none.night(0), Due.OUTSIDE);
    Due.is("night(99) without doors", none.night(99), Due.NOT);
    ChalkedDoors x = Due.street("s1;");
    Due.is("night(0)", x.night(0), Due.OUTSIDE);
    Due.is("night(100)", x.night(100), Due.OUTSIDE);
    Due.is("night(99)", x.night(99), 99);
    Due.is("told(6)", x.told(6), 99);
  }
}
