/** Promises 27 to 32: write, tear, judge, seed, keep, goBack. */
public final class BookTest {
  public static void main(String[] args) {
    entries();
    judged();
    torn();
    seeds();
    images();
    Due.end();
  }

  private static void entries() {
    ChalkedDoors x = Due.street(Due.USUAL);
    Due.is("write(6, 16)", x.write(6, 16), Due.UNKNOWN);
    Due.is("write(-1, 0)", x.write(-1, 0), Due.UNKNOWN);
    Due.is("write(0, 16)", x.write(0, 16), Due.OUTSIDE);
    Due.is("write(0, -1)", x.write(0, -1), Due.OUTSIDE);
    for (int k = 1; k <= 15; k++) {
      Due.is("write(0, 15)", x.write(0, 15), k);
    }
    Due.is("write(0, 15) at 15", x.write(0, 15), Due.FULL);
    Due.is("write(0, 16) at 15", x.write(0, 16), Due.OUTSIDE);
    Due.is("write(6, 0) at 15", x.write(6, 0), Due.UNKNOWN);
    Due.is("told(11)", x.told(11), 15);
    Due.is("write(0, 0) without doors", new ChalkedDoors().write(0, 0), Due.UNKNOWN);
  }

  private static void judged() {
    ChalkedDoors x = Due.street(Due.USUAL);
    Due.is("judge() of nothing", x.judge(), Due.NONE);
    x.write(1, 3);
    x.write(4, 6);
    x.write(3, 8);
    Due.is("judge(): a mark that there is not", x.judge(), 2);
    x.wipe(4, 1);
    Due.is("judge() behind wipe", x.judge(), 1);
    x.wipe(1, 0);
    Due.is("judge() behind wipe again", x.judge(), 0);
    x.mark(1, 0);
    x.hide(1, 2, true);
    Due.is("judge() behind mark", x.judge(), 1);
  }

  private static void torn() {
    ChalkedDoors x = Due.street(Due.USUAL);
    Due.is("tear() of nothing", x.tear(), 0);
    x.note(0, 0, true);
    x.note(0, 1, true);
    x.write(0, 0);
    Due.is("tear()", x.tear(), 3);
    Due.is("tear() again", x.tear(), 0);
    Due.is("told(10)", x.told(10), 0);
    Due.is("told(11)", x.told(11), 0);
    Due.is("judge()", x.judge(), Due.NONE);
    Due.is("first(-1)", x.first(-1), 186);
    Due.is("write(0, 1) behind tear", x.write(0, 1), 1);
    Due.is("note(0, 1, true) behind tear", x.note(0, 1, true), 1);
  }

  private static void seeds() {
    ChalkedDoors x = new ChalkedDoors();
    Due.is("seed(MAX)", x.seed(Integer.MAX_VALUE), 0);
    Due.is("seed(-1)", x.seed(-1), Due.OUTSIDE);
    Due.is("seed(MIN)", x.seed(Integer.MIN_VALUE), Due.OUTSIDE);
    Due.is("seed(0)", x.seed(0), Integer.MAX_VALUE);
    ChalkedDoors y = Due.street("s1;");
    y.seed(Integer.MAX_VALUE);
    y.night(1);
    Due.is("seed(0) behind a night", y.seed(0), (int) ((2147483647L * 1103515245L + 12345L) % 2147483648L));
    y.night(1);
    Due.is("seed(0) behind a night from 0", y.seed(0), 12345);
  }

  private static void images() {
    ChalkedDoors x = Due.street(Due.USUAL);
    Due.is("keep(2)", x.keep(2), Due.UNKNOWN);
    Due.is("keep(-1)", x.keep(-1), Due.UNKNOWN);
    Due.is("goBack(2)", x.goBack(2), Due.UNKNOWN);
    Due.is("goBack(-1)", x.goBack(-1), Due.UNKNOWN);
    Due.is("goBack(0)", x.goBack(0), Due.NOT);
    x.seed(6);
    x.hide(3, 1, true);
    x.mark(3, 0);
    Due.is("keep(0)", x.keep(0), 1);
    Due.is("goBack(1)", x.goBack(1), Due.NOT);
    x.night(20);
    x.hide(3, 1, false);
    x.hide(2, 2, true);
    x.write(0, 1);
    x.note(0, 3, true);
    int marks = x.told(8);
    int spent = x.told(7);
    Due.is("keep(1)", x.keep(1), 1);
    Due.is("goBack(0), kept", x.goBack(0), 1);
    int[] want = {6, 3, 8, 2, 1, 0, 0, 5, 7, 1, 1, 1};
    for (int what = 0; what < want.length; what++) {
      Due.is("told(" + what + ") of image 0", x.told(what), want[what]);
    }
    Due.is("door(3, 0) of image 0", x.door(3, 0), 1);
    Due.is("door(3, 1) of image 0", x.door(3, 1), 2);
    Due.is("door(2, 1) of image 0", x.door(2, 1), 0);
    Due.is("seed(6) of image 0", x.seed(6), 6);
    Due.is("night(20) again", x.night(20), 20);
    Due.is("told(8) again", x.told(8), marks);
    x.wipe(4, 2);
    Due.is("goBack(1), kept", x.goBack(1), 1);
    Due.is("told(6) of image 1", x.told(6), 20);
    Due.is("told(7) of image 1", x.told(7), spent);
    Due.is("told(8) of image 1", x.told(8), marks);
    Due.is("door(2, 1) of image 1", x.door(2, 1), 4);
    x.mark(5, 2);
    Due.is("goBack(1) twice", x.goBack(1), 1);
    Due.is("door(5, 0): an image is not what is so", x.door(5, 0) & 4, 0);
    Due.is("keep(0) without doors", new ChalkedDoors().keep(0), 1);
  }
}
