/** The edges of what is told and done (part 2 of the document, promises 5 to 12): costs, cut halves, single draws, full counts. */
public final class DoneEdgeTest {
  public static void main(String[] args) {
    washedByIsCut();
    toldCountsAll();
    aMarkIsPutOnce();
    aMarkIsWipedOnce();
    aMarkIsHiddenOnce();
    theFirstAndTheLastOfAll();
    copyReachesAsFarAsItIsTold();
    copyOverTheEndsOfTheStreet();
    copyCostsWhatHasToBePut();
    nightsFrom1To99();
    itRainsBelowV();
    itRainsBelow4IfUntold();
    aMarkIsWashedBelowWashedBy();
    childrenPutBelowA();
    eachDrawIsTaken();
    doorByDoorChalkByChalk();
    childrenComeBehindTheRain();
    hiddenOnesStay();
    theSeedWrapsAround();
    nightsAreFullAbove90000();
    spentIs999999AtMost();
    Due.end();
  }

  private static long next(long seed) {
    return (seed * 1103515245L + 12345L) % 2147483648L;
  }

  private static int draw(long seed, int of) {
    return (int) (seed / 65536 % of);
  }

  /** A seed whose first draw of 8 and second draw of some number are these; below 0: any. */
  private static int seedFor(int first, int second, int of) {
    for (int seed = 0; ; seed++) {
      long one = next(seed);
      long two = next(one);
      if ((first < 0 || draw(one, 8) == first) && (second < 0 || draw(two, of) == second)) {
        return seed;
      }
    }
  }

  private static void washedByIsCut() {
    int[] half = {0, 0, 1, 1, 2, 2, 3, 3, 4};
    for (int w = 0; w <= 8; w++) {
      ChalkedDoors x = Due.street("s1;c0 " + w + " 0 0;c1 " + w + " 0 0;c2 " + w + " 0 0;");
      Due.is("chalk(0, 4), W " + w, x.chalk(0, 4), w);
      Due.is("chalk(1, 4), W " + w, x.chalk(1, 4), half[w]);
      Due.is("chalk(2, 4), W " + w, x.chalk(2, 4), 0);
      for (int c = 0; c < 3; c++) {
        Due.is("chalk(" + c + ", 1), W " + w, x.chalk(c, 1), w);
      }
    }
  }

  private static void toldCountsAll() {
    ChalkedDoors x = Due.street("s14;c0 0 0 0;c0 0 0 0;c0 0 0 0;c0 0 20 0;m0 15;");
    Due.is("told(8), one door", x.told(8), 4);
    x.copy(0, 13);
    Due.is("told(8), all", x.told(8), 56);
    Due.is("told(9), none", x.told(9), 0);
    for (int d = 0; d < 14; d++) {
      for (int c = 0; c < 4; c++) {
        x.hide(d, c, true);
      }
    }
    Due.is("told(8), all still", x.told(8), 56);
    Due.is("told(9), all", x.told(9), 56);
    Due.is("told(7)", x.told(7), 13 * 20 + 14 * 20);
    Due.is("told(6)", x.told(6), 0);
  }

  private static void aMarkIsPutOnce() {
    ChalkedDoors x = Due.street("s1;c0 0 0 0;c0 0 20 0;c0 0 1 0;");
    Due.is("mark(0, 0), for nothing", x.mark(0, 0), 0);
    Due.is("mark(0, 0), there", x.mark(0, 0), Due.NOT);
    Due.is("mark(0, 1), for 20", x.mark(0, 1), 20);
    Due.is("mark(0, 1), there", x.mark(0, 1), Due.NOT);
    Due.is("told(7): what is refused costs nothing", x.told(7), 20);
    Due.is("hide(0, 2, true)", x.hide(0, 2, true), 0);
    Due.is("mark(0, 2), only hidden so far", x.mark(0, 2), 22);
    Due.is("door(0, 0)", x.door(0, 0), 7);
    Due.is("wipe(0, 1)", x.wipe(0, 1), 5);
    Due.is("mark(0, 1), wiped", x.mark(0, 1), 42);
  }

  private static void aMarkIsWipedOnce() {
    ChalkedDoors x = Due.street("s2;c0 0 1 0;c2 0 1 0;m0 3;");
    Due.is("wipe(1, 0), never there", x.wipe(1, 0), Due.NOT);
    Due.is("wipe(0, 0)", x.wipe(0, 0), 2);
    Due.is("wipe(0, 0), wiped", x.wipe(0, 0), Due.NOT);
    Due.is("wipe(0, 1), carved and the last", x.wipe(0, 1), 0);
    Due.is("wipe(0, 1), wiped", x.wipe(0, 1), Due.NOT);
    x.hide(1, 1, true);
    Due.is("wipe(1, 1), only hidden", x.wipe(1, 1), Due.NOT);
    Due.is("door(1, 1)", x.door(1, 1), 2);
    Due.is("told(7): wiping costs nothing", x.told(7), 1);
  }

  private static void aMarkIsHiddenOnce() {
    ChalkedDoors x = Due.street("s2;c0 0 20 0;c0 0 0 0;m0 1;");
    Due.is("hide(0, 0, false), not hidden", x.hide(0, 0, false), 0);
    Due.is("door(0, 0): what is not hidden is not taken", x.door(0, 0), 1);
    Due.is("hide(0, 0, true)", x.hide(0, 0, true), 0);
    Due.is("told(7)", x.told(7), 20);
    Due.is("hide(0, 0, true), hidden", x.hide(0, 0, true), 1);
    Due.is("told(7): once", x.told(7), 20);
    Due.is("told(8): it is no mark", x.told(8), 1);
    Due.is("hide(0, 0, false), hidden", x.hide(0, 0, false), 1);
    Due.is("hide(0, 0, false), taken", x.hide(0, 0, false), 0);
    Due.is("told(7): taking costs nothing", x.told(7), 20);
    Due.is("hide(0, 0, true), again", x.hide(0, 0, true), 0);
    Due.is("told(7), again", x.told(7), 40);
    Due.is("door(0, 1)", x.door(0, 1), 1);
    Due.is("door(1, 1)", x.door(1, 1), 0);
  }

  private static void theFirstAndTheLastOfAll() {
    ChalkedDoors x = Due.street("s14;c0 0 1 0;c0 0 2 0;c0 0 3 0;c0 0 4 0;");
    Due.is("mark(0, 0)", x.mark(0, 0), 1);
    Due.is("mark(13, 3)", x.mark(13, 3), 5);
    Due.is("hide(13, 3, true)", x.hide(13, 3, true), 0);
    Due.is("told(7)", x.told(7), 9);
    Due.is("door(0, 0)", x.door(0, 0), 1);
    Due.is("door(13, 0)", x.door(13, 0), 8);
    Due.is("door(13, 1)", x.door(13, 1), 8);
    Due.is("chalk(3, 2)", x.chalk(3, 2), 4);
    Due.is("wipe(13, 3)", x.wipe(13, 3), 0);
    Due.is("copy(13, 1)", x.copy(13, 1), 9);
    for (int d = 1; d < 13; d++) {
      Due.is("door(" + d + ", 0)", x.door(d, 0), 0);
    }
  }

  private static void copyReachesAsFarAsItIsTold() {
    for (int from = 0; from < 14; from += 13) {
      for (int f = 1; f <= 13; f++) {
        ChalkedDoors x = Due.street("s14;c0 0 1 0;m" + from + " 1;");
        Due.is("copy(" + from + ", " + f + ")", x.copy(from, f), f);
        Due.is("like(1) of it", x.like(1), from == 0 ? (1 << f + 1) - 1 : 16383 & ~((1 << 13 - f) - 1));
      }
    }
    ChalkedDoors x = Due.street("s14;c0 0 1 0;m5 1;");
    Due.is("copy(5, 3), to both sides", x.copy(5, 3), 6);
    Due.is("like(1)", x.like(1), 0x1fc);
  }

  private static void copyOverTheEndsOfTheStreet() {
    ChalkedDoors one = Due.street("s1;c0 0 9 0;m0 1;");
    Due.is("copy(0, 1) of one door", one.copy(0, 1), 0);
    Due.is("copy(0, 13) of one door", one.copy(0, 13), 0);
    Due.is("door(0, 0) of one door", one.door(0, 0), 1);
    ChalkedDoors two = Due.street("s2;c0 0 9 0;m1 1;");
    Due.is("copy(1, 13) of two", two.copy(1, 13), 9);
    Due.is("like(1) of two", two.like(1), 3);
    ChalkedDoors x = Due.street("s5;c0 0 9 0;m2 1;");
    Due.is("copy(2, 13) of five", x.copy(2, 13), 36);
    Due.is("like(1) of five", x.like(1), 31);
  }

  private static void copyCostsWhatHasToBePut() {
    ChalkedDoors x = Due.street("s4;c0 0 1 0;c0 0 20 0;c0 0 5 0;m0 3;m1 1;m2 4;m3 7;");
    x.hide(0, 2, true);
    x.hide(1, 1, true);
    // door 1 needs chalk 1, door 2 chalks 0 and 1, door 3 nothing; hidden ones neither go along nor help
    Due.is("copy(0, 13)", x.copy(0, 13), 25 + 20 + 21);
    Due.is("like(3)", x.like(3), 15);
    Due.is("door(0, 1)", x.door(0, 1), 4);
    Due.is("door(1, 1)", x.door(1, 1), 2);
    Due.is("door(2, 1)", x.door(2, 1), 0);
    Due.is("copy(3, 13), nothing to put", x.copy(3, 13), 66);
    x.wipe(0, 0);
    x.wipe(0, 1);
    Due.is("copy(0, 1) of no marks", x.copy(0, 1), 66);
    Due.is("like(0)", x.like(0), 3);
  }

  private static void nightsFrom1To99() {
    ChalkedDoors x = Due.street("s1;");
    Due.is("told(6) at first", x.told(6), 0);
    Due.is("night(0)", x.night(0), Due.OUTSIDE);
    Due.is("night(1)", x.night(1), 1);
    Due.is("night(99)", x.night(99), 100);
    Due.is("night(100)", x.night(100), Due.OUTSIDE);
    Due.is("night(-1)", x.night(-1), Due.OUTSIDE);
    Due.is("told(6)", x.told(6), 100);
    Due.is("seed(0): one draw a night", x.seed(0), (int) afterDraws(0, 100));
    ChalkedDoors none = new ChalkedDoors();
    Due.is("night(1) without doors", none.night(1), Due.NOT);
    Due.is("night(0) without doors", none.night(0), Due.OUTSIDE);
    Due.is("night(100) without doors", none.night(100), Due.OUTSIDE);
    Due.is("seed(0) without doors", none.seed(0), 0);
    // at once or one by one is the same
    ChalkedDoors y = Due.street("s3;c0 3 0 2;c1 7 0 1;m0 3;");
    ChalkedDoors z = Due.street("s3;c0 3 0 2;c1 7 0 1;m0 3;");
    y.night(40);
    for (int k = 1; k <= 40; k++) {
      Due.is("night(1)", z.night(1), k);
    }
    if (!Sight.of(y).equals(Sight.of(z))) {
      Due.fail("night(40) is not forty times night(1)");
    }
  }

  private static long afterDraws(long seed, int draws) {
    long after = seed;
    for (int k = 0; k < draws; k++) {
      after = next(after);
    }
    return after;
  }

  private static void itRainsBelowV() {
    for (int v = 0; v <= 8; v++) {
      for (int drawn = 0; drawn < 8; drawn++) {
        ChalkedDoors x = Due.street("s1;c0 8 0 0;m0 1;r" + v + ";");
        x.seed(seedFor(drawn, -1, 8));
        x.night(1);
        Due.is("door(0, 0), V " + v + ", drawn " + drawn, x.door(0, 0), drawn < v ? 0 : 1);
      }
    }
  }

  private static void itRainsBelow4IfUntold() {
    for (int drawn = 0; drawn < 8; drawn++) {
      ChalkedDoors x = Due.street("s1;c0 8 0 0;m0 1;");
      x.seed(seedFor(drawn, -1, 8));
      x.night(1);
      Due.is("door(0, 0), V untold, drawn " + drawn, x.door(0, 0), drawn < 4 ? 0 : 1);
    }
  }

  private static void aMarkIsWashedBelowWashedBy() {
    for (int kind = 0; kind < 3; kind++) {
      for (int w = 0; w <= 8; w++) {
        int washedBy = kind == 0 ? w : kind == 1 ? w / 2 : 0;
        for (int drawn = 0; drawn < 8; drawn++) {
          ChalkedDoors x = Due.street("s1;c" + kind + " " + w + " 0 0;m0 1;r8;");
          x.seed(seedFor(-1, drawn, 8));
          x.night(1);
          Due.is("door(0, 0), KIND " + kind + ", W " + w + ", drawn " + drawn, x.door(0, 0), drawn < washedBy ? 0 : 1);
        }
      }
    }
  }

  private static void childrenPutBelowA() {
    for (int a = 0; a <= 7; a++) {
      for (int drawn = 0; drawn < 64; drawn++) {
        ChalkedDoors x = Due.street("s1;c2 0 20 " + a + ";r0;");
        x.seed(seedFor(-1, drawn, 64));
        x.night(1);
        Due.is("door(0, 0), A " + a + ", drawn " + drawn, x.door(0, 0), drawn < a ? 1 : 0);
        Due.is("told(7), A " + a + ", drawn " + drawn, x.told(7), 0);
      }
    }
  }

  private static void drawsOfANight(String text, int seed, int draws) {
    ChalkedDoors x = Due.street(text);
    x.seed(seed);
    x.night(1);
    Due.is("the seed behind a night of \"" + text + "\"", x.seed(0), (int) afterDraws(seed, draws));
  }

  private static void eachDrawIsTaken() {
    drawsOfANight("s14;", 1, 1);
    drawsOfANight("s14;c0 8 0 0;r8;", 1, 1);
    drawsOfANight("s2;c0 8 0 0;m0 1;m1 1;r0;", 1, 1);
    drawsOfANight("s2;c0 8 0 0;m0 1;m1 1;r8;", 1, 3);
    // a mark that rain cannot wash is drawn for as well
    drawsOfANight("s2;c0 0 0 0;c1 1 0 0;c2 8 0 0;m0 7;m1 6;r8;", 1, 6);
    // children draw for each door whether it has the mark or not, and for no chalk with A 0
    drawsOfANight("s3;c0 0 0 1;c0 0 0 0;c0 0 0 7;m0 5;r0;", 1, 7);
    drawsOfANight("s3;c0 0 0 1;c0 0 0 0;c0 0 0 7;m0 5;r8;", 1, 9);
    ChalkedDoors x = Due.street("s2;c0 8 0 0;r8;");
    x.hide(0, 0, true);
    x.night(1);
    Due.is("the seed behind a night: hidden ones are not drawn for", x.seed(0), 12345);
  }

  /** Every draw of one night, told one by one, over many seeds. */
  private static void doorByDoorChalkByChalk() {
    for (int start = 0; start < 300; start++) {
      ChalkedDoors x = Due.street("s3;c0 3 0 7;c0 5 0 5;m0 3;m1 2;m2 3;r6;");
      x.seed(start * 7919);
      x.night(1);
      int[] marks = {3, 2, 3};
      int[] washedBy = {3, 5};
      int[] children = {7, 5};
      long seed = next(start * 7919);
      boolean rains = draw(seed, 8) < 6;
      for (int k = 0; rains && k < 6; k++) {
        int d = k / 2;
        int c = k % 2;
        if ((marks[d] & 1 << c) != 0) {
          seed = next(seed);
          marks[d] -= draw(seed, 8) < washedBy[c] ? 1 << c : 0;
        }
      }
      for (int k = 0; k < 6; k++) {
        seed = next(seed);
        marks[k / 2] |= draw(seed, 64) < children[k % 2] ? 1 << k % 2 : 0;
      }
      for (int d = 0; d < 3; d++) {
        Due.is("door(" + d + ", 0), seed " + start * 7919, x.door(d, 0), marks[d]);
      }
      Due.is("the seed behind it", x.seed(0), (int) seed);
    }
  }

  private static void childrenComeBehindTheRain() {
    for (int seed = 0; ; seed++) {
      // rain, the mark is washed, and the third draw lets children put it on again
      if (draw(afterDraws(seed, 3), 64) < 7) {
        ChalkedDoors x = Due.street("s1;c0 8 0 7;m0 1;r8;");
        x.seed(seed);
        x.night(1);
        Due.is("door(0, 0), washed and put again", x.door(0, 0), 1);
        Due.is("the seed behind it", x.seed(0), (int) afterDraws(seed, 3));
        return;
      }
    }
  }

  private static void hiddenOnesStay() {
    ChalkedDoors x = Due.street("s2;c0 8 1 0;m0 1;m1 1;r8;");
    x.hide(0, 0, true);
    x.night(1);
    Due.is("told(8): all is washed off", x.told(8), 0);
    Due.is("door(0, 1)", x.door(0, 1), 1);
    x.night(99);
    Due.is("door(0, 1) behind 100 nights", x.door(0, 1), 1);
  }

  private static void theSeedWrapsAround() {
    int[] seeds = {0, 1, 2147483646, 2147483647, 1 << 30, 1103515245};
    for (int seed : seeds) {
      ChalkedDoors x = Due.street("s1;");
      x.seed(seed);
      x.night(1);
      int after = x.seed(0);
      Due.is("the seed behind " + seed, after, (int) next(seed));
      Due.is("the seed behind " + seed + ": below 0?", after < 0 ? 1 : 0, 0);
    }
    ChalkedDoors x = Due.street("s1;");
    x.night(99);
    Due.is("the seed behind 99 nights", x.seed(0), (int) afterDraws(0, 99));
  }

  /** More than 512 calls, behind which the answers are free: there is no nearer way to this bound. */
  private static void nightsAreFullAbove90000() {
    ChalkedDoors x = Due.street("s1;");
    for (int k = 0; k < 909; k++) {
      x.night(99);
    }
    Due.is("night(9) to 90000", x.night(9), 90000);
    x.keep(0);
    Due.is("night(99) at 90000", x.night(99), 90099);
    Due.is("night(1) above 90000", x.night(1), Due.FULL);
    x.goBack(0);
    Due.is("night(1) at 90000", x.night(1), 90001);
    int seed = x.seed(0);
    Due.is("night(1) at 90001", x.night(1), Due.FULL);
    Due.is("night(99) at 90001", x.night(99), Due.FULL);
    Due.is("night(100) at 90001", x.night(100), Due.OUTSIDE);
    Due.is("night(0) at 90001", x.night(0), Due.OUTSIDE);
    Due.is("told(6) at 90001", x.told(6), 90001);
    Due.is("seed(0): nothing was drawn", x.seed(seed), 0);
  }

  /** More than 512 calls, as above. */
  private static void spentIs999999AtMost() {
    ChalkedDoors x = Due.street("s14;c0 0 20 0;c0 0 1 0;");
    for (int k = 0; k < 49999; k++) {
      x.mark(0, 0);
      x.wipe(0, 0);
    }
    for (int k = 0; k < 18; k++) {
      x.mark(0, 1);
      x.wipe(0, 1);
    }
    Due.is("told(7)", x.told(7), 999998);
    x.keep(0);
    Due.is("mark(0, 1) to 999999", x.mark(0, 1), 999999);
    Due.is("mark(1, 1) at 999999", x.mark(1, 1), 999999);
    x.goBack(0);
    Due.is("mark(0, 0) over it", x.mark(0, 0), 999999);
    Due.is("copy(0, 13) over it", x.copy(0, 13), 999999);
    Due.is("like(1): it was put all the same", x.like(1), 16383);
    x.goBack(0);
    x.hide(0, 1, true);
    Due.is("told(7) by hide", x.told(7), 999999);
    x.hide(0, 0, true);
    Due.is("told(7) by hide over it", x.told(7), 999999);
    Due.is("door(0, 1)", x.door(0, 1), 3);
    x.goBack(0);
    x.mark(7, 1);
    x.goBack(0);
    Due.is("told(7), gone back", x.told(7), 999998);
  }
}
