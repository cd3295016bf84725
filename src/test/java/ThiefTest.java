/** Promises 13 to 19: like, fool, code, windows, leastWindow, belief, bestDoor. */
public final class ThiefTest {
  public static void main(String[] args) {
    likes();
    fools();
    codes();
    codesAgainstAll();
    rows();
    beliefs();
    bestDoors();
    Due.end();
  }

  private static void likes() {
    ChalkedDoors x = Due.street(Due.USUAL);
    Due.is("like(0)", x.like(0), 40);
    Due.is("like(1)", x.like(1), 5);
    Due.is("like(7)", x.like(7), 0);
    Due.is("like(8)", x.like(8), Due.UNKNOWN);
    Due.is("like(-1)", x.like(-1), Due.UNKNOWN);
    x.hide(3, 0, true);
    Due.is("like(0), a hidden one", x.like(0), 40);
    Due.is("like(0) without doors", new ChalkedDoors().like(0), 0);
    Due.is("like(1) without doors", new ChalkedDoors().like(1), Due.UNKNOWN);
  }

  private static void fools() {
    ChalkedDoors x = Due.street(Due.USUAL);
    int[] marks = {0, 0, 1, 2, 3, 6};
    int[] doors = {5, 5, 7, 15, 47, 63};
    for (int k = 2; k <= 6; k++) {
      Due.is("fool(1, " + k + ", 0)", x.fool(1, k, 0), marks[k - 1]);
      Due.is("fool(1, " + k + ", 1)", x.fool(1, k, 1), doors[k - 1]);
    }
    Due.is("fool(1, 7, 0)", x.fool(1, 7, 0), Due.NONE);
    Due.is("fool(1, 14, 1)", x.fool(1, 14, 1), Due.NONE);
    ChalkedDoors same = Due.street("s5;c0 0 0 0;m1 1;m2 1;m4 1;");
    Due.is("fool(1, 2, 1): all that have it", same.fool(1, 2, 1), 22);
    Due.is("fool(1, 2, 0)", same.fool(1, 2, 0), 0);
    Due.is("fool(0, 3, 1)", same.fool(0, 3, 1), 11);
    Due.is("fool(8, 1, 2)", x.fool(8, 1, 2), Due.UNKNOWN);
    Due.is("fool(-1, 2, 0)", x.fool(-1, 2, 0), Due.UNKNOWN);
    Due.is("fool(1, 1, 0)", x.fool(1, 1, 0), Due.OUTSIDE);
    Due.is("fool(1, 15, 0)", x.fool(1, 15, 0), Due.OUTSIDE);
    Due.is("fool(1, 2, 2)", x.fool(1, 2, 2), Due.OUTSIDE);
    Due.is("fool(1, 2, -1)", x.fool(1, 2, -1), Due.OUTSIDE);
    Due.is("fool(0, 15, 0) without doors", new ChalkedDoors().fool(0, 15, 0), Due.OUTSIDE);
    Due.is("told(7): tried alone", x.told(7), 0);
    Due.is("told(8): tried alone", x.told(8), 6);
  }

  private static void codes() {
    ChalkedDoors x = Due.street(Due.USUAL);
    int[] sets = {0, 1, 2, 3, 4, 5};
    Due.is("code(0, -1)", x.code(0, -1), 30);
    for (int d = 0; d < 6; d++) {
      Due.is("code(0, " + d + ")", x.code(0, d), sets[d]);
    }
    Due.is("code(1, -1)", x.code(1, -1), Due.NONE);
    Due.is("code(1, 5)", x.code(1, 5), Due.NONE);
    Due.is("code(0, 6)", x.code(0, 6), Due.UNKNOWN);
    Due.is("code(3, 6)", x.code(3, 6), Due.UNKNOWN);
    Due.is("code(3, -2)", x.code(3, -2), Due.UNKNOWN);
    Due.is("code(3, 5)", x.code(3, 5), Due.OUTSIDE);
    Due.is("code(3, -1)", x.code(3, -1), Due.OUTSIDE);
    Due.is("code(-1, -1)", x.code(-1, -1), Due.OUTSIDE);
    ChalkedDoors none = new ChalkedDoors();
    for (int e = 0; e < 3; e++) {
      Due.is("code(" + e + ", -1) without doors", none.code(e, -1), 0);
      Due.is("code(" + e + ", 0) without doors", none.code(e, 0), Due.UNKNOWN);
    }
    ChalkedDoors few = Due.street("s3;c0 0 1 0;");
    Due.is("code(0, -1), too few chalks", few.code(0, -1), Due.NONE);
    ChalkedDoors one = Due.street("s1;");
    Due.is("code(2, -1) of one door", one.code(2, -1), 0);
    Due.is("code(2, 0) of one door", one.code(2, 0), 0);
    ChalkedDoors two = Due.street("s2;c0 0 9 0;c0 0 1 0;c0 0 2 0;c0 0 3 0;");
    Due.is("code(1, -1) of two", two.code(1, -1), 6);
    Due.is("code(1, 0) of two", two.code(1, 0), 0);
    Due.is("code(1, 1) of two", two.code(1, 1), 14);
    Due.is("code(2, -1) of two", two.code(2, -1), Due.NONE);
    ChalkedDoors free = Due.street("s2;c0 0 0 0;c0 0 0 0;c0 0 0 0;c0 0 0 0;");
    Due.is("code(1, 1), all free", free.code(1, 1), 7);
    Due.is("code(0, 1), all free", free.code(0, 1), 1);
    ChalkedDoors likeCosts = Due.street("s4;c0 0 3 0;c0 0 1 0;c0 0 2 0;");
    Due.is("code(0, -1), like costs", likeCosts.code(0, -1), 6);
    Due.is("code(0, 1), like costs", likeCosts.code(0, 1), 1);
    Due.is("code(0, 3), like costs", likeCosts.code(0, 3), 4);
  }

  /** Every choice of sets is tried, and the first of the cheapest taken. */
  private static void codesAgainstAll() {
    int[][] costs = {{}, {4}, {2, 2}, {0, 5, 5}, {3, 1, 2}, {1, 1, 1, 1}, {20, 0, 7, 7}, {3, 2, 1, 6}, {0, 0, 4, 4}};
    for (int[] cost : costs) {
      for (int doors = 1; doors <= 14; doors++) {
        StringBuilder text = new StringBuilder("s" + doors + ";");
        for (int c : cost) {
          text.append("c0 0 " + c + " 0;");
        }
        ChalkedDoors x = Due.street(text.toString());
        for (int e = 0; e < 3; e++) {
          int[] want = cheapest(cost, doors, 2 * e + 1);
          for (int d = -1; d < doors; d++) {
            Due.is("code(" + e + ", " + d + ") of \"" + text + "\"", x.code(e, d), want[d + 1]);
          }
        }
      }
    }
  }

  /** The cost and behind it the sets; NONE throughout if there is no code. */
  private static int[] cheapest(int[] cost, int doors, int distance) {
    int[] best = new int[doors + 1];
    java.util.Arrays.fill(best, Due.NONE);
    int all = 1 << cost.length;
    for (int words = 0; words < 1 << all; words++) {
      if (Integer.bitCount(words) != doors) {
        continue;
      }
      int[] found = new int[doors + 1];
      int at = 1;
      for (int set = 0; set < all; set++) {
        if ((words >> set & 1) != 0) {
          found[at++] = set;
          for (int c = 0; c < cost.length; c++) {
            found[0] += (set >> c & 1) * cost[c];
          }
        }
      }
      boolean fits = true;
      for (int i = 1; i <= doors && fits; i++) {
        for (int j = 1; j < i; j++) {
          fits &= Integer.bitCount(found[i] ^ found[j]) >= distance;
        }
      }
      if (fits && (best[0] == Due.NONE || java.util.Arrays.compare(found, best) < 0)) {
        best = found;
      }
    }
    return best;
  }

  private static void rows() {
    ChalkedDoors x = Due.street(Due.USUAL);
    int[] want = {2, 5, 4, 3, 2, 1};
    for (int l = 1; l <= 6; l++) {
      Due.is("windows(" + l + ")", x.windows(l), want[l - 1]);
    }
    Due.is("windows(0)", x.windows(0), Due.OUTSIDE);
    Due.is("windows(7)", x.windows(7), Due.OUTSIDE);
    Due.is("leastWindow()", x.leastWindow(), 2);
    ChalkedDoors same = Due.street("s5;c0 0 0 0;");
    Due.is("windows(4), all the same", same.windows(4), 0);
    Due.is("leastWindow(), all the same", same.leastWindow(), 5);
    same.hide(0, 0, true);
    Due.is("windows(1), a hidden one", same.windows(1), 0);
    same.mark(0, 0);
    Due.is("windows(1), one other", same.windows(1), 1);
    Due.is("windows(3), one other", same.windows(3), 1);
    Due.is("leastWindow(), one other", same.leastWindow(), 4);
    Due.is("leastWindow() of one door", Due.street("s1;").leastWindow(), 1);
    Due.is("leastWindow() without doors", new ChalkedDoors().leastWindow(), Due.NONE);
    Due.is("windows(0) without doors", new ChalkedDoors().windows(0), Due.OUTSIDE);
    Due.is("windows(1) without doors", new ChalkedDoors().windows(1), Due.OUTSIDE);
  }

  private static void beliefs() {
    ChalkedDoors x = Due.street("s3;c0 3 0 1;c1 5 0 3;m0 1;m1 2;m2 3;");
    // stays of chalk 0 by 5 of 8, three times: 6250, 3906, 2441; of chalk 1 (oil, washed by 2): 7500, 5625, 4218
    long[] oneOfZero = {1000000000L * 2441 / 10000 * 5 / 8, 1000000000L * 7559 / 10000 * 3 / 8, 1000000000L * 2441 / 10000 * 3 / 8};
    long[] oneOfBoth = {244100000L * 5782 / 10000, 755900000L * 4218 / 10000, 244100000L * 4218 / 10000};
    long[] none = {125000000L * 5 / 8, 875000000L * 3 / 8, 125000000L * 3 / 8};
    long[][] weights = {none, oneOfZero, null, oneOfBoth};
    for (int set = 0; set < 4; set++) {
      if (weights[set] != null) {
        long all = weights[set][0] + weights[set][1] + weights[set][2];
        for (int d = 0; d < 3; d++) {
          Due.is("belief(" + set + ", 3, " + d + ")", x.belief(set, 3, d), (int) (weights[set][d] * 1000000 / all));
        }
      }
    }
    x.hide(0, 1, true);
    Due.is("belief(0, 1, 0), a hidden one", x.belief(0, 1, 0), (int) (none[0] * 1000000 / (none[0] + none[1] + none[2])));
    Due.is("belief(4, 1, 0)", x.belief(4, 1, 0), Due.UNKNOWN);
    Due.is("belief(-1, 1, 0)", x.belief(-1, 1, 0), Due.UNKNOWN);
    Due.is("belief(1, 0, 3)", x.belief(1, 0, 3), Due.UNKNOWN);
    Due.is("belief(1, 0, -1)", x.belief(1, 0, -1), Due.UNKNOWN);
    Due.is("belief(1, 0, 0)", x.belief(1, 0, 0), Due.OUTSIDE);
    Due.is("belief(1, 10, 0)", x.belief(1, 10, 0), Due.OUTSIDE);
    ChalkedDoors nobody = Due.street("s2;c2 0 0 0;c0 0 0 0;m0 2;m1 2;");
    Due.is("belief(1, 9, 0), all weights 0", nobody.belief(1, 9, 0), 0);
    Due.is("belief(2, 9, 1), like ones", nobody.belief(2, 9, 1), 500000);
    Due.is("belief(0, 1, 0) without chalks", Due.street("s3;").belief(0, 1, 0), 333333);
  }

  private static void bestDoors() {
    ChalkedDoors x = Due.street(Due.USUAL);
    Due.is("bestDoor(6, 1)", x.bestDoor(6, 1), 4);
    Due.is("bestDoor(1, 1)", x.bestDoor(1, 1), 3);
    Due.is("bestDoor(0, 9), like ones", x.bestDoor(0, 9), 3);
    Due.is("bestDoor(8, 1)", x.bestDoor(8, 1), Due.UNKNOWN);
    Due.is("bestDoor(8, 0)", x.bestDoor(8, 0), Due.UNKNOWN);
    Due.is("bestDoor(1, 0)", x.bestDoor(1, 0), Due.OUTSIDE);
    Due.is("bestDoor(1, 10)", x.bestDoor(1, 10), Due.OUTSIDE);
    Due.is("bestDoor(0, 1) without doors", new ChalkedDoors().bestDoor(0, 1), Due.NONE);
    Due.is("bestDoor(0, 0) without doors", new ChalkedDoors().bestDoor(0, 0), Due.OUTSIDE);
    ChalkedDoors nobody = Due.street("s2;c2 0 0 0;c0 0 0 0;m0 2;m1 2;");
    Due.is("bestDoor(1, 1), all weights 0", nobody.bestDoor(1, 1), Due.NONE);
    Due.is("bestDoor(2, 1), like ones", nobody.bestDoor(2, 1), 0);
    // 2 of 10000 stay, twice, then 1 of 8 and 2 of 8: a billion becomes 200000, 40, 5, 1
    ChalkedDoors hardly = Due.street("s1;c0 7 0 0;c0 7 0 0;c0 0 0 1;c0 0 0 2;m0 15;");
    Due.is("bestDoor(3, 4), a weight of 1", hardly.bestDoor(3, 4), 0);
    Due.is("belief(3, 4, 0), a weight of 1", hardly.belief(3, 4, 0), 1000000);
    Due.is("bestDoor(3, 5), a weight of 0", hardly.bestDoor(3, 5), Due.NONE);
  }
}
