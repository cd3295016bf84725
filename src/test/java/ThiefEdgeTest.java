/** The edges of what thieves try (promises 13 to 19): none and all doors, too few chalks, like ones, cut weights. */
public final class ThiefEdgeTest {
  public static void main(String[] args) {
    likeNoneAndAll();
    foolFrom2To14();
    foolWithTooFewDoors();
    foolOfLikeOnesTheLeast();
    foolTakesAllThatHaveItAlready();
    foolFewestFirst();
    codeNeedsEnoughSets();
    codeOfThreeChanges();
    codeOfFiveChanges();
    codeOfLikeOnesTheFirst();
    codeIsNotOfTheMarks();
    windowsFrom1ToN();
    windowsThatLieOverOneAnother();
    leastWindowFrom1ToN();
    thePartThatStaysIsCutEachTime();
    weightsAreCutEachTime();
    childrenInABelief();
    millionthsAreCut();
    allWeightsNought();
    aWeightOfOneIsNotNought();
    bestDoorOfLikeOnesTheLeast();
    hiddenOnesAreNotLookedAt();
    Due.end();
  }

  private static void likeNoneAndAll() {
    ChalkedDoors x = Due.street("s14;c0 0 0 0;c0 0 0 0;c0 0 0 0;c0 0 0 0;");
    Due.is("like(0), all", x.like(0), 16383);
    Due.is("like(15), none", x.like(15), 0);
    Due.is("like(16)", x.like(16), Due.UNKNOWN);
    for (int c = 0; c < 4; c++) {
      x.mark(13, c);
    }
    Due.is("like(15), the last", x.like(15), 1 << 13);
    Due.is("like(0), all but the last", x.like(0), 8191);
    Due.is("like(7), more marks are not just these", x.like(7), 0);
    ChalkedDoors bare = Due.street("s2;");
    Due.is("like(0) without chalks", bare.like(0), 3);
    Due.is("like(1) without chalks", bare.like(1), Due.UNKNOWN);
  }

  private static void foolFrom2To14() {
    ChalkedDoors x = Due.street("s14;c0 0 0 0;c0 0 0 0;c0 0 0 0;c0 0 0 0;");
    Due.is("fool(15, 1, 0)", x.fool(15, 1, 0), Due.OUTSIDE);
    Due.is("fool(15, 15, 0)", x.fool(15, 15, 0), Due.OUTSIDE);
    for (int k = 2; k <= 14; k++) {
      Due.is("fool(15, " + k + ", 0)", x.fool(15, k, 0), 4 * k);
      Due.is("fool(15, " + k + ", 1)", x.fool(15, k, 1), (1 << k) - 1);
      Due.is("fool(0, " + k + ", 0)", x.fool(0, k, 0), 0);
      Due.is("fool(0, " + k + ", 1)", x.fool(0, k, 1), 16383);
    }
  }

  private static void foolWithTooFewDoors() {
    for (int doors = 1; doors <= 14; doors++) {
      ChalkedDoors x = Due.street("s" + doors + ";c0 0 0 0;");
      for (int k = 2; k <= 14; k++) {
        Due.is("fool(1, " + k + ", 0) of " + doors, x.fool(1, k, 0), doors < k ? Due.NONE : k);
        Due.is("fool(1, " + k + ", 1) of " + doors, x.fool(1, k, 1), doors < k ? Due.NONE : (1 << k) - 1);
        // NONE, though all that there are have it
        Due.is("fool(0, " + k + ", 0) of " + doors, x.fool(0, k, 0), doors < k ? Due.NONE : 0);
      }
      Due.is("fool(2, 14, 0) of " + doors, x.fool(2, 14, 0), Due.UNKNOWN);
      Due.is("fool(1, 14, 2) of " + doors, x.fool(1, 14, 2), Due.OUTSIDE);
      Due.is("fool(1, 15, 1) of " + doors, x.fool(1, 15, 1), Due.OUTSIDE);
    }
  }

  private static void foolOfLikeOnesTheLeast() {
    ChalkedDoors x = Due.street("s5;c0 0 0 0;c0 0 0 0;m0 3;m1 2;m2 2;m3 2;m4 1;");
    // for 0 the doors 1 .. 4 need one each, the door 0 two
    Due.is("fool(0, 2, 1)", x.fool(0, 2, 1), 2 + 4);
    Due.is("fool(0, 4, 1)", x.fool(0, 4, 1), 2 + 4 + 8 + 16);
    Due.is("fool(0, 4, 0)", x.fool(0, 4, 0), 4);
    Due.is("fool(0, 5, 1)", x.fool(0, 5, 1), 31);
    Due.is("fool(0, 5, 0)", x.fool(0, 5, 0), 6);
  }

  private static void foolTakesAllThatHaveItAlready() {
    ChalkedDoors x = Due.street("s6;c0 0 0 0;m1 1;m3 1;m5 1;");
    Due.is("fool(1, 2, 1): three have it", x.fool(1, 2, 1), 2 + 8 + 32);
    Due.is("fool(1, 2, 0)", x.fool(1, 2, 0), 0);
    Due.is("fool(1, 3, 1): just three", x.fool(1, 3, 1), 2 + 8 + 32);
    Due.is("fool(1, 4, 1): one more", x.fool(1, 4, 1), 1 + 2 + 8 + 32);
    Due.is("fool(1, 4, 0)", x.fool(1, 4, 0), 1);
  }

  private static void foolFewestFirst() {
    // needs for 15: 4, 3, 2, 1, 0
    ChalkedDoors x = Due.street("s5;c0 0 0 0;c0 0 0 0;c0 0 0 0;c0 0 0 0;m1 1;m2 9;m3 7;m4 15;");
    int[] marks = {1, 3, 6, 10};
    int[] doors = {24, 28, 30, 31};
    for (int k = 2; k <= 5; k++) {
      Due.is("fool(15, " + k + ", 0)", x.fool(15, k, 0), marks[k - 2]);
      Due.is("fool(15, " + k + ", 1)", x.fool(15, k, 1), doors[k - 2]);
    }
    // both to be put and to be wiped count: for 6 the door 2 (9) needs four
    Due.is("fool(6, 5, 0)", x.fool(6, 5, 0), 2 + 3 + 4 + 1 + 2);
  }

  private static void codeNeedsEnoughSets() {
    for (int chalks = 0; chalks <= 4; chalks++) {
      for (int doors = 1; doors <= 14; doors++) {
        ChalkedDoors x = Due.street("s" + doors + ";" + "c0 0 20 0;".repeat(chalks));
        boolean none = doors > 1 << chalks;
        int cost = 0;
        int left = doors;
        int[] bySize = {1, chalks, chalks * (chalks - 1) / 2, chalks == 4 ? 4 : chalks == 3 ? 1 : 0, chalks == 4 ? 1 : 0};
        for (int size = 0; size <= 4; size++) {
          int taken = Math.min(left, bySize[size]);
          cost += 20 * size * taken;
          left -= taken;
        }
        Due.is("code(0, -1), " + doors + " doors, " + chalks + " chalks", x.code(0, -1), none ? Due.NONE : cost);
        Due.is("code(0, 0), " + doors + " doors, " + chalks + " chalks", x.code(0, 0), none ? Due.NONE : 0);
        Due.is("code(0, last): is it NONE?", x.code(0, doors - 1) == Due.NONE ? 1 : 0, none ? 1 : 0);
        Due.is("code(0, " + doors + ")", x.code(0, doors), Due.UNKNOWN);
      }
    }
  }

  private static void codeOfThreeChanges() {
    Due.is("code(1, 0) of one door without chalks", Due.street("s1;").code(1, 0), 0);
    Due.is("code(1, -1) of two doors, 2 chalks", Due.street("s2;c0 0 0 0;c0 0 0 0;").code(1, -1), Due.NONE);
    ChalkedDoors three = Due.street("s2;c0 0 1 0;c0 0 2 0;c0 0 4 0;");
    Due.is("code(1, -1) of two doors, 3 chalks", three.code(1, -1), 7);
    Due.is("code(1, 0)", three.code(1, 0), 0);
    Due.is("code(1, 1)", three.code(1, 1), 7);
    ChalkedDoors four = Due.street("s2;c0 0 1 0;c0 0 2 0;c0 0 4 0;c0 0 3 0;");
    Due.is("code(1, -1) of two doors, 4 chalks", four.code(1, -1), 6);
    Due.is("code(1, 1), 4 chalks", four.code(1, 1), 11);
    ChalkedDoors doors3 = Due.street("s3;c0 0 0 0;c0 0 0 0;c0 0 0 0;c0 0 0 0;");
    Due.is("code(1, -1) of three doors", doors3.code(1, -1), Due.NONE);
    Due.is("code(1, 2) of three doors", doors3.code(1, 2), Due.NONE);
  }

  private static void codeOfFiveChanges() {
    ChalkedDoors one = Due.street("s1;c0 0 5 0;");
    Due.is("code(2, -1) of one door", one.code(2, -1), 0);
    Due.is("code(2, 0) of one door", one.code(2, 0), 0);
    Due.is("code(3, 0) of one door", one.code(3, 0), Due.OUTSIDE);
    Due.is("code(-1, 0) of one door", one.code(-1, 0), Due.OUTSIDE);
    Due.is("code(3, 1) of one door", one.code(3, 1), Due.UNKNOWN);
    ChalkedDoors two = Due.street("s2;c0 0 0 0;c0 0 0 0;c0 0 0 0;c0 0 0 0;");
    Due.is("code(2, -1) of two doors, 4 chalks", two.code(2, -1), Due.NONE);
    Due.is("code(2, 1) of two doors, 4 chalks", two.code(2, 1), Due.NONE);
  }

  private static void code(String text, int e, int... want) {
    ChalkedDoors x = Due.street(text);
    for (int d = 0; d < want.length; d++) {
      Due.is("code(" + e + ", " + d + ") of \"" + text + "\"", x.code(e, d), want[d]);
    }
  }

  private static void codeOfLikeOnesTheFirst() {
    code("s3;c0 0 0 0;c0 0 0 0;", 0, 0, 1, 2);
    code("s2;c0 0 9 0;c0 0 0 0;", 0, 0, 2);
    code("s3;c0 0 9 0;c0 0 4 0;c0 0 4 0;", 0, 0, 2, 4);
    // {0, 1}, {2} and so on all cost 3: the lesser sets first
    code("s4;c0 0 1 0;c0 0 2 0;c0 0 3 0;", 0, 0, 1, 2, 3);
    code("s4;c0 0 3 0;c0 0 2 0;c0 0 1 0;", 0, 0, 1, 2, 4);
    code("s2;c0 0 0 0;c0 0 0 0;c0 0 0 0;c0 0 0 0;", 1, 0, 7);
    code("s2;c0 0 1 0;c0 0 1 0;c0 0 1 0;c0 0 1 0;", 1, 0, 7);
    // free chalks: 8 and 7 as well as 0 and 7 cost 3, the lesser is 0
    code("s2;c0 0 1 0;c0 0 1 0;c0 0 1 0;c0 0 0 0;", 1, 0, 11);
    code("s2;c0 0 0 0;c0 0 5 0;c0 0 5 0;c0 0 5 0;", 1, 0, 7);
  }

  private static void codeIsNotOfTheMarks() {
    ChalkedDoors x = Due.street("s2;c0 0 3 0;m0 1;m1 1;");
    Due.is("code(0, 0)", x.code(0, 0), 0);
    Due.is("code(0, 1)", x.code(0, 1), 1);
    Due.is("code(0, -1)", x.code(0, -1), 3);
    Due.is("told(7): nothing is spent", x.told(7), 0);
  }

  private static void windowsFrom1ToN() {
    for (int doors = 1; doors <= 14; doors++) {
      ChalkedDoors x = Due.street("s" + doors + ";");
      Due.is("windows(0) of " + doors, x.windows(0), Due.OUTSIDE);
      for (int l = 1; l <= doors; l++) {
        Due.is("windows(" + l + ") of " + doors, x.windows(l), l == doors ? 1 : 0);
      }
      Due.is("windows(" + (doors + 1) + ") of " + doors, x.windows(doors + 1), Due.OUTSIDE);
    }
    Due.is("windows(0) without doors", new ChalkedDoors().windows(0), Due.OUTSIDE);
    Due.is("windows(1) without doors", new ChalkedDoors().windows(1), Due.OUTSIDE);
  }

  private static void windowsThatLieOverOneAnother() {
    // 0 1 0 1 0: rows of three are 010, 101, 010
    ChalkedDoors x = Due.street("s5;c0 0 0 0;m1 1;m3 1;");
    int[] want = {0, 0, 1, 2, 1};
    for (int l = 1; l <= 5; l++) {
      Due.is("windows(" + l + ")", x.windows(l), want[l - 1]);
    }
    // the first row and the last one are looked at: 1 0 0 1
    ChalkedDoors ends = Due.street("s4;c0 0 0 0;m0 1;m3 1;");
    Due.is("windows(1), the ends", ends.windows(1), 0);
    Due.is("windows(2), the ends", ends.windows(2), 3);
    // rows are not read backwards: 1 0 and 0 1 are two
    Due.is("windows(3), the ends", ends.windows(3), 2);
    // and do not go on around: 1 1 0 has the rows 11 and 10 alone
    ChalkedDoors around = Due.street("s3;c0 0 0 0;m0 1;m1 1;");
    Due.is("windows(2), not around", around.windows(2), 2);
    Due.is("windows(1), not around", around.windows(1), 1);
  }

  private static void leastWindowFrom1ToN() {
    Due.is("leastWindow() without doors", new ChalkedDoors().leastWindow(), Due.NONE);
    for (int doors = 1; doors <= 14; doors++) {
      ChalkedDoors x = Due.street("s" + doors + ";c0 0 0 0;");
      Due.is("leastWindow() of " + doors + ", all the same", x.leastWindow(), doors);
      x.mark(doors - 1, 0);
      // the last one is other: rows up to the last two ahead of it are the same
      Due.is("leastWindow() of " + doors + ", the last is other", x.leastWindow(), Math.max(1, doors - 1));
    }
    StringBuilder text = new StringBuilder("s14;c0 0 0 0;c0 0 0 0;c0 0 0 0;c0 0 0 0;");
    for (int d = 0; d < 14; d++) {
      text.append('m').append(d).append(' ').append(15 - d).append(';');
    }
    ChalkedDoors all = Due.street(text.toString());
    Due.is("leastWindow(), all are others", all.leastWindow(), 1);
    Due.is("windows(1), all are others", all.windows(1), 14);
  }

  /** One door with the mark, one without: a billion of weights together, and the belief is a hundred times the part that stays. */
  private static void thePartThatStaysIsCutEachTime() {
    for (int kind = 0; kind < 3; kind++) {
      for (int w = 0; w <= 8; w++) {
        ChalkedDoors x = Due.street("s2;c" + kind + " " + w + " 0 5;m0 1;");
        int stays = 10000;
        for (int n = 1; n <= 9; n++) {
          stays = stays * (8 - x.chalk(0, 4)) / 8;
          Due.is("belief(1, " + n + ", 0), KIND " + kind + ", W " + w, x.belief(1, n, 0), stays * 100);
          Due.is("belief(1, " + n + ", 1), KIND " + kind + ", W " + w, x.belief(1, n, 1), (10000 - stays) * 100);
        }
        Due.is("belief(1, 0, 0)", x.belief(1, 0, 0), Due.OUTSIDE);
        Due.is("belief(1, 10, 0)", x.belief(1, 10, 0), Due.OUTSIDE);
      }
    }
    // 7 of 8 washed: 1250, 156 (.25), 19 (.5), 2 (.375), 0 (.25)
    ChalkedDoors x = Due.street("s2;c0 7 0 0;m0 1;");
    int[] want = {125000, 15600, 1900, 200, 0, 0, 0, 0, 0};
    for (int n = 1; n <= 9; n++) {
      Due.is("belief(1, " + n + ", 0), 7 of 8", x.belief(1, n, 0), want[n - 1]);
      Due.is("bestDoor(1, " + n + "), 7 of 8", x.bestDoor(1, n), 1);
    }
  }

  private static void weightsAreCutEachTime() {
    // 2 of 10000 stay, twice: 200000, 40; then 3 of 8, twice: 15, 5 (.625); without the last mark 5 of 8: 9 (.375)
    ChalkedDoors x = Due.street("s2;c0 7 0 0;c0 7 0 0;c0 0 0 3;c0 0 0 3;m0 15;m1 7;");
    Due.is("belief(3, 4, 0)", x.belief(3, 4, 0), 357142);
    Due.is("belief(3, 4, 1)", x.belief(3, 4, 1), 642857);
    Due.is("bestDoor(3, 4)", x.bestDoor(3, 4), 1);
    // 40, 5, 1 (.25) and 40, 5, 3 (.75)
    ChalkedDoors y = Due.street("s2;c0 7 0 0;c0 7 0 0;c0 0 0 1;c0 0 0 2;m0 15;m1 7;");
    Due.is("belief(3, 4, 0), 1 and 3", y.belief(3, 4, 0), 250000);
    Due.is("belief(3, 4, 1), 1 and 3", y.belief(3, 4, 1), 750000);
    // chalk by chalk from 0 on: 125000000, 31250000, 6250, 1 (.25) and 125000000, 93750000, 18750, 3 (.75)
    ChalkedDoors z = Due.street("s2;c0 0 0 1;c0 0 0 2;c0 7 0 0;c0 7 0 0;m0 15;m1 13;");
    Due.is("belief(12, 4, 0), 1 and 3", z.belief(12, 4, 0), 250000);
    Due.is("belief(12, 4, 1), 1 and 3", z.belief(12, 4, 1), 750000);
  }

  private static void childrenInABelief() {
    for (int a = 0; a <= 7; a++) {
      ChalkedDoors x = Due.street("s2;c0 4 0 " + a + ";m0 1;");
      Due.is("belief(0, 1, 0), A " + a, x.belief(0, 1, 0), a * 125000);
      Due.is("belief(0, 9, 1), A " + a, x.belief(0, 9, 1), (8 - a) * 125000);
      Due.is("bestDoor(0, 1), A " + a, x.bestDoor(0, 1), a >= 4 ? 0 : 1);
    }
  }

  private static void millionthsAreCut() {
    for (int doors = 1; doors <= 14; doors++) {
      ChalkedDoors x = Due.street("s" + doors + ";");
      Due.is("belief(0, 1, 0) of " + doors, x.belief(0, 1, 0), 1000000 / doors);
      Due.is("belief(0, 9, last) of " + doors, x.belief(0, 9, doors - 1), 1000000 / doors);
    }
    // one of 10 weighs seven, nine one each: 7 / 16 and 1 / 16
    ChalkedDoors x = Due.street("s10;c0 0 0 1;m0 1;m1 1;m2 1;m3 1;m4 1;m5 1;m6 1;m7 1;m8 1;");
    Due.is("belief(0, 1, 0)", x.belief(0, 1, 0), 62500);
    Due.is("belief(0, 1, 9)", x.belief(0, 1, 9), 437500);
  }

  private static void allWeightsNought() {
    ChalkedDoors x = Due.street("s3;c0 0 0 0;");
    // W 0: what was put is there still, and it is not
    for (int d = 0; d < 3; d++) {
      Due.is("belief(1, 1, " + d + ")", x.belief(1, 1, d), 0);
    }
    Due.is("bestDoor(1, 1)", x.bestDoor(1, 1), Due.NONE);
    x.mark(2, 0);
    Due.is("belief(1, 1, 2)", x.belief(1, 1, 2), 1000000);
    Due.is("belief(1, 1, 0)", x.belief(1, 1, 0), 0);
    Due.is("bestDoor(1, 1), the last", x.bestDoor(1, 1), 2);
    ChalkedDoors all = Due.street("s2;c0 8 0 0;m0 1;m1 1;");
    Due.is("belief(1, 1, 0), W 8", all.belief(1, 1, 0), 0);
    Due.is("bestDoor(1, 9), W 8", all.bestDoor(1, 9), Due.NONE);
    Due.is("bestDoor(0, 1), A 0", all.bestDoor(0, 1), Due.NONE);
  }

  private static void aWeightOfOneIsNotNought() {
    // 2 of 10000 stay behind 4 nights, none behind 5: a billion becomes 200000, 40, 5, 1 (.25)
    ChalkedDoors one = Due.street("s1;c0 7 0 0;c0 7 0 0;c0 0 0 1;c0 0 0 2;m0 15;");
    Due.is("bestDoor(3, 4), a weight of 1", one.bestDoor(3, 4), 0);
    Due.is("belief(3, 4, 0), a weight of 1", one.belief(3, 4, 0), 1000000);
    Due.is("bestDoor(3, 5), a weight of 0", one.bestDoor(3, 5), Due.NONE);
    Due.is("belief(3, 5, 0), a weight of 0", one.belief(3, 5, 0), 0);
  }

  private static void bestDoorOfLikeOnesTheLeast() {
    Due.is("bestDoor(0, 1) of 14", Due.street("s14;").bestDoor(0, 1), 0);
    ChalkedDoors x = Due.street("s4;c0 3 0 1;m1 1;m3 1;");
    Due.is("bestDoor(0, 1)", x.bestDoor(0, 1), 0);
    Due.is("bestDoor(1, 1)", x.bestDoor(1, 1), 1);
    x.wipe(1, 0);
    Due.is("bestDoor(1, 1), the last", x.bestDoor(1, 1), 3);
    // like weights by other marks: washed by 4 of 8 in one night is as likely as not
    ChalkedDoors y = Due.street("s2;c0 4 0 0;m1 1;");
    Due.is("bestDoor(1, 1), as likely as not", y.bestDoor(1, 1), 0);
    Due.is("belief(1, 1, 1), as likely as not", y.belief(1, 1, 1), 500000);
  }

  private static void hiddenOnesAreNotLookedAt() {
    ChalkedDoors x = Due.street("s3;c0 4 0 1;m1 1;");
    for (int d = 0; d < 3; d++) {
      x.hide(d, 0, d != 1);
    }
    Due.is("like(1)", x.like(1), 2);
    Due.is("fool(1, 3, 0)", x.fool(1, 3, 0), 2);
    Due.is("fool(1, 2, 1)", x.fool(1, 2, 1), 3);
    Due.is("windows(1)", x.windows(1), 1);
    Due.is("leastWindow()", x.leastWindow(), 2);
    Due.is("belief(0, 1, 0)", x.belief(0, 1, 0), 466666);
    Due.is("bestDoor(0, 1)", x.bestDoor(0, 1), 0);
  }
}
