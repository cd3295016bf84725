/** The edges of books and images (promises 27 to 32): empty and full ones, what is not kept, the greatest seed. */
public final class BookEdgeTest {
  public static void main(String[] args) {
    entriesUpTo15();
    entriesOfMarks0To15();
    judgeOfAnEmptyBook();
    judgeTheFirstAndTheLast();
    judgeLooksAtMarksAlone();
    tearNothingAndAll();
    seedsFrom0To2147483647();
    imagesAre0And1();
    imagesThatWereNotKept();
    imagesKeepJustFiveThings();
    imagesAreCopies();
    imagesAreKeptAnew();
    imagesAndStreets();
    Due.end();
  }

  private static void entriesUpTo15() {
    ChalkedDoors x = Due.street("s14;");
    for (int k = 1; k <= 15; k++) {
      Due.is("write(13, 0), the " + k, x.write(13, 0), k);
    }
    Due.is("write(13, 1) at 15", x.write(13, 1), Due.FULL);
    Due.is("write(13, 16) at 15", x.write(13, 16), Due.OUTSIDE);
    Due.is("write(14, 16) at 15", x.write(14, 16), Due.UNKNOWN);
    Due.is("told(11)", x.told(11), 15);
    Due.is("judge(): nothing was written", x.judge(), Due.NONE);
    Due.is("tear()", x.tear(), 15);
    Due.is("write(13, 1) behind tear", x.write(13, 1), 1);
    Due.is("judge()", x.judge(), 0);
  }

  private static void entriesOfMarks0To15() {
    ChalkedDoors x = Due.street("s14;");
    Due.is("write(0, -1)", x.write(0, -1), Due.OUTSIDE);
    Due.is("write(0, 16)", x.write(0, 16), Due.OUTSIDE);
    Due.is("write(-1, 0)", x.write(-1, 0), Due.UNKNOWN);
    Due.is("write(14, 0)", x.write(14, 0), Due.UNKNOWN);
    Due.is("write(14, -1)", x.write(14, -1), Due.UNKNOWN);
    Due.is("told(11)", x.told(11), 0);
    Due.is("write(0, 0)", x.write(0, 0), 1);
    // of chalks that there are not, too: the bounds are 0 .. 15
    Due.is("write(13, 15)", x.write(13, 15), 2);
    Due.is("judge()", x.judge(), 1);
  }

  private static void judgeOfAnEmptyBook() {
    Due.is("judge() without doors", new ChalkedDoors().judge(), Due.NONE);
    ChalkedDoors x = Due.street(Due.USUAL);
    Due.is("judge() of nothing", x.judge(), Due.NONE);
    x.write(0, 1);
    Due.is("judge() of what is so", x.judge(), Due.NONE);
    x.write(3, 0);
    Due.is("judge() of no marks", x.judge(), Due.NONE);
  }

  private static void judgeTheFirstAndTheLast() {
    for (int wrong = 0; wrong < 15; wrong++) {
      ChalkedDoors x = Due.street("s14;c0 0 0 0;");
      for (int k = 0; k < 15; k++) {
        x.write(k % 14, k >= wrong ? 1 : 0);
      }
      Due.is("judge(), wrong from " + wrong + " on", x.judge(), wrong);
    }
    ChalkedDoors x = Due.street("s14;c0 0 0 0;");
    for (int k = 0; k < 15; k++) {
      x.write(13, k < 14 ? 0 : 1);
    }
    Due.is("judge(), the last alone", x.judge(), 14);
    x.mark(13, 0);
    Due.is("judge(), all but the last", x.judge(), 0);
  }

  private static void judgeLooksAtMarksAlone() {
    ChalkedDoors x = Due.street("s2;c0 8 0 0;m0 1;r8;");
    x.write(0, 1);
    x.write(1, 0);
    x.hide(1, 0, true);
    Due.is("judge(), a hidden one", x.judge(), Due.NONE);
    x.keep(0);
    x.night(1);
    Due.is("judge(), washed", x.judge(), 0);
    x.goBack(0);
    Due.is("judge(), gone back", x.judge(), Due.NONE);
    x.copy(0, 1);
    Due.is("judge(), copied", x.judge(), 1);
  }

  private static void tearNothingAndAll() {
    ChalkedDoors x = Due.street("s1;");
    Due.is("tear() of nothing", x.tear(), 0);
    for (int k = 0; k < 15; k++) {
      x.write(0, 15);
      x.note(0, 0, true);
    }
    Due.is("told(10)", x.told(10), 10);
    Due.is("told(11)", x.told(11), 15);
    Due.is("tear() of all", x.tear(), 25);
    Due.is("tear() again", x.tear(), 0);
    Due.is("told(10), torn", x.told(10), 0);
    Due.is("told(11), torn", x.told(11), 0);
    Due.is("first(-1), torn", x.first(-1), 31);
    Due.is("judge(), torn", x.judge(), Due.NONE);
    x.note(0, 0, true);
    Due.is("tear() of one noted", x.tear(), 1);
    x.write(0, 0);
    Due.is("tear() of one entry", x.tear(), 1);
  }

  private static void seedsFrom0To2147483647() {
    ChalkedDoors x = new ChalkedDoors();
    Due.is("seed(2147483647)", x.seed(2147483647), 0);
    Due.is("seed(-1)", x.seed(-1), Due.OUTSIDE);
    Due.is("seed(MIN)", x.seed(Integer.MIN_VALUE), Due.OUTSIDE);
    Due.is("seed(0)", x.seed(0), 2147483647);
    Due.is("seed(1)", x.seed(1), 0);
    Due.is("seed(1) again", x.seed(1), 1);
  }

  private static void imagesAre0And1() {
    ChalkedDoors x = Due.street("s1;");
    Due.is("keep(-1)", x.keep(-1), Due.UNKNOWN);
    Due.is("keep(2)", x.keep(2), Due.UNKNOWN);
    Due.is("goBack(0): none was kept", x.goBack(0), Due.NOT);
    Due.is("goBack(1): none was kept", x.goBack(1), Due.NOT);
    Due.is("keep(0)", x.keep(0), 1);
    Due.is("keep(1)", x.keep(1), 1);
    Due.is("goBack(0)", x.goBack(0), 1);
    Due.is("goBack(1)", x.goBack(1), 1);
    Due.is("goBack(-1)", x.goBack(-1), Due.UNKNOWN);
    Due.is("goBack(2)", x.goBack(2), Due.UNKNOWN);
    Due.is("goBack(32)", x.goBack(32), Due.UNKNOWN);
  }

  private static void imagesThatWereNotKept() {
    for (int kept = 0; kept < 2; kept++) {
      ChalkedDoors x = Due.street("s1;c0 0 1 0;");
      x.keep(kept);
      x.mark(0, 0);
      Due.is("goBack(" + (1 - kept) + ")", x.goBack(1 - kept), Due.NOT);
      Due.is("door(0, 0): nothing has changed", x.door(0, 0), 1);
      Due.is("goBack(" + kept + ")", x.goBack(kept), 1);
      Due.is("door(0, 0), gone back", x.door(0, 0), 0);
    }
  }

  private static void imagesKeepJustFiveThings() {
    ChalkedDoors x = Due.street("s2;c0 0 3 0;c0 0 4 0;m0 1;");
    x.mark(1, 1);
    x.hide(0, 1, true);
    x.night(2);
    x.seed(77);
    x.keep(1);
    x.wipe(1, 1);
    x.mark(1, 0);
    x.hide(0, 1, false);
    x.hide(1, 0, true);
    x.night(3);
    x.seed(78);
    x.note(0, 0, true);
    x.write(0, 0);
    Due.feed(x, "x");
    x.street();
    Due.feed(x, "s9");
    Due.is("goBack(1)", x.goBack(1), 1);
    int[] told = {2, 2, 4, 0, 0, 2, 2, 8, 2, 1, 1, 1};
    for (int what = 0; what < told.length; what++) {
      Due.is("told(" + what + "), gone back", x.told(what), told[what]);
    }
    Due.is("door(0, 0)", x.door(0, 0), 1);
    Due.is("door(0, 1)", x.door(0, 1), 2);
    Due.is("door(1, 0)", x.door(1, 0), 2);
    Due.is("door(1, 1)", x.door(1, 1), 0);
    Due.is("seed(0)", x.seed(0), 77);
    Due.is("fault(): of the latest street()", x.fault(), 0);
    Due.is("judge(): the book is as it was", x.judge(), 0);
    Due.is("first(-1): what was noted is as it was", x.first(-1), 1);
  }

  private static void imagesAreCopies() {
    ChalkedDoors x = Due.street("s2;c0 0 1 0;");
    x.keep(0);
    x.keep(1);
    x.mark(0, 0);
    x.hide(1, 0, true);
    x.keep(1);
    x.goBack(0);
    Due.is("told(8) of image 0", x.told(8), 0);
    Due.is("told(9) of image 0", x.told(9), 0);
    x.mark(1, 0);
    x.goBack(0);
    Due.is("told(8) of image 0 again", x.told(8), 0);
    x.goBack(1);
    Due.is("door(0, 0) of image 1", x.door(0, 0), 1);
    Due.is("door(1, 1) of image 1", x.door(1, 1), 1);
    Due.is("told(7) of image 1", x.told(7), 2);
  }

  private static void imagesAreKeptAnew() {
    ChalkedDoors x = Due.street("s1;c0 0 1 0;");
    x.keep(0);
    x.mark(0, 0);
    Due.is("keep(0) anew", x.keep(0), 1);
    Due.is("door(0, 0): keeping changes nothing", x.door(0, 0), 1);
    x.wipe(0, 0);
    x.goBack(0);
    Due.is("door(0, 0) of the newer one", x.door(0, 0), 1);
  }

  private static void imagesAndStreets() {
    ChalkedDoors x = Due.street("s1;c0 0 1 0;");
    x.keep(0);
    x.keep(1);
    x.mark(0, 0);
    Due.feed(x, "s1");
    Due.is("street() with a fault", x.street(), -11);
    Due.is("goBack(0) behind a fault", x.goBack(0), 1);
    Due.is("door(0, 0) behind a fault", x.door(0, 0), 0);
    Due.feed(x, "s1;");
    Due.is("street()", x.street(), 1);
    Due.is("goBack(0) behind a street", x.goBack(0), Due.NOT);
    Due.is("goBack(1) behind a street", x.goBack(1), Due.NOT);
    x.keep(1);
    Due.is("street() of an empty text", x.street(), 0);
    Due.is("goBack(1) behind an empty text", x.goBack(1), Due.NOT);
    ChalkedDoors none = new ChalkedDoors();
    none.seed(5);
    Due.is("keep(0) without doors", none.keep(0), 1);
    none.seed(6);
    Due.is("goBack(0) without doors", none.goBack(0), 1);
    Due.is("seed(0) without doors", none.seed(0), 5);
  }
}
