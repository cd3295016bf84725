/** The edges of gangs and fashions (promises 23 to 26): signs that wrap around, no doors told, the first and the last night. */
public final class GangEdgeTest {
  private static final String MANY = "s14;c0 0 0 0;c0 0 0 0;c0 0 0 0;c0 0 0 0;";

  public static void main(String[] args) {
    keyPartsFrom0To15();
    signsWrapAroundAt16();
    aDoorWithoutMarksIsNotForged();
    forgedNoneAndAll();
    keysOfNoDoors();
    keysOfOneDoor();
    keysOfAllDoors();
    keysThatDoNotFit();
    theFirstKeyIsTheLeast();
    notesOfNights0To30();
    notesUpTo10();
    noteTwiceAndAgainst();
    fashionBehindItsFirstNight();
    fashionOneDoorANight();
    firstInTheLastNight();
    firstBehindTheLastOne();
    firstNightByNight();
    firstOfOneDoor();
    Due.end();
  }

  private static void keyPartsFrom0To15() {
    ChalkedDoors x = Due.street(Due.USUAL);
    Due.is("forged(-1, 0)", x.forged(-1, 0), Due.OUTSIDE);
    Due.is("forged(0, -1)", x.forged(0, -1), Due.OUTSIDE);
    Due.is("forged(0, 0)", x.forged(0, 0), 23);
    Due.is("forged(15, 15)", x.forged(15, 15), 23);
    Due.is("forged(16, 0)", x.forged(16, 0), Due.OUTSIDE);
    Due.is("forged(0, 16)", x.forged(0, 16), Due.OUTSIDE);
    Due.is("forged(17, 1): not as forged(1, 1)", x.forged(17, 1), Due.OUTSIDE);
  }

  private static void signsWrapAroundAt16() {
    // 15 times 13 and 15 is 210, 13 times 16 and 2
    Due.is("forged(15, 15), the door 13", Due.street(MANY + "m13 2;").forged(15, 15), 0);
    Due.is("forged(15, 15), the door 13 with 15", Due.street(MANY + "m13 15;").forged(15, 15), 1 << 13);
    Due.is("forged(15, 1), the door 1", Due.street(MANY + "m1 1;").forged(15, 1), 2);
    Due.is("forged(14, 1), the door 1", Due.street(MANY + "m1 15;").forged(14, 1), 0);
    Due.is("forged(1, 15), the door 2", Due.street(MANY + "m2 1;").forged(1, 15), 0);
  }

  private static void aDoorWithoutMarksIsNotForged() {
    ChalkedDoors x = Due.street("s3;c0 0 0 0;m1 1;");
    Due.is("forged(0, 0): the sign is no marks", x.forged(0, 0), 2);
    Due.is("forged(0, 1)", x.forged(0, 1), 0);
    Due.is("forged(0, 2)", x.forged(0, 2), 2);
    x.hide(0, 0, true);
    Due.is("forged(0, 2), hidden ones are no marks", x.forged(0, 2), 2);
    x.wipe(1, 0);
    Due.is("forged(0, 2), wiped", x.forged(0, 2), 0);
  }

  private static void forgedNoneAndAll() {
    ChalkedDoors x = Due.street(MANY + "m0 8;");
    x.copy(0, 13);
    Due.is("forged(0, 8), none", x.forged(0, 8), 0);
    Due.is("forged(0, 7), all", x.forged(0, 7), 16383);
    Due.is("forged(8, 8), every other one", x.forged(8, 8), 0x2aaa);
  }

  private static void keysOfNoDoors() {
    ChalkedDoors x = Due.street(Due.USUAL);
    Due.is("keys(0, 0)", x.keys(0, 0), 256);
    Due.is("keys(0, 1)", x.keys(0, 1), 0);
    Due.is("keys(0, 2)", x.keys(0, 2), Due.OUTSIDE);
    Due.is("keys(0, -1)", x.keys(0, -1), Due.OUTSIDE);
    Due.is("keys(0, 0) without doors", new ChalkedDoors().keys(0, 0), 256);
    Due.is("keys(1, 0) without doors", new ChalkedDoors().keys(1, 0), Due.UNKNOWN);
    Due.is("keys(1, 2) without doors", new ChalkedDoors().keys(1, 2), Due.UNKNOWN);
  }

  private static void keysOfOneDoor() {
    ChalkedDoors x = Due.street(MANY + "m0 15;m3 5;m13 15;");
    for (int d = 0; d < 14; d++) {
      Due.is("keys of the door " + d, x.keys(1 << d, 0), 16);
      Due.is("the first of the door " + d, x.keys(1 << d, 1), x.door(d, 0));
    }
    Due.is("keys(16384, 0)", x.keys(16384, 0), Due.UNKNOWN);
    Due.is("keys(16385, 0)", x.keys(16385, 0), Due.UNKNOWN);
  }

  private static void keysOfAllDoors() {
    StringBuilder text = new StringBuilder(MANY);
    for (int d = 0; d < 14; d++) {
      text.append('m').append(d).append(' ').append((15 * d + 15) % 16).append(';');
    }
    ChalkedDoors x = Due.street(text.toString());
    Due.is("keys(16383, 0), the last key", x.keys(16383, 0), 1);
    Due.is("keys(16383, 1), the last key", x.keys(16383, 1), 255);
    ChalkedDoors bare = Due.street(MANY);
    Due.is("keys(16383, 0), no marks", bare.keys(16383, 0), 1);
    Due.is("keys(16383, 1), no marks", bare.keys(16383, 1), 0);
  }

  private static void keysThatDoNotFit() {
    // an even number of doors apart, the marks are an even number apart
    ChalkedDoors x = Due.street(MANY + "m2 1;");
    Due.is("keys(5, 0)", x.keys(5, 0), 0);
    Due.is("keys(5, 1)", x.keys(5, 1), Due.NONE);
    ChalkedDoors y = Due.street(MANY + "m8 8;");
    Due.is("keys(257, 0), eight doors apart", y.keys(257, 0), 8);
    Due.is("keys(257, 1), eight doors apart", y.keys(257, 1), 16);
  }

  private static void theFirstKeyIsTheLeast() {
    ChalkedDoors x = Due.street(MANY + "m1 3;");
    Due.is("keys(2, 1): a 0 ahead of b 0", x.keys(2, 1), 3);
    Due.is("keys(2, 0)", x.keys(2, 0), 16);
    Due.is("keys(3, 1)", x.keys(3, 1), 48);
    // doors 0 and 2 are the same: a is 0 or 8
    Due.is("keys(5, 0)", x.keys(5, 0), 2);
    Due.is("keys(5, 1)", x.keys(5, 1), 0);
  }

  private static void notesOfNights0To30() {
    ChalkedDoors x = Due.street("s2;");
    Due.is("note(0, -1, true)", x.note(0, -1, true), Due.OUTSIDE);
    Due.is("note(0, 31, true)", x.note(0, 31, true), Due.OUTSIDE);
    Due.is("note(-1, 0, true)", x.note(-1, 0, true), Due.UNKNOWN);
    Due.is("note(2, 0, true)", x.note(2, 0, true), Due.UNKNOWN);
    Due.is("note(2, 31, true)", x.note(2, 31, true), Due.UNKNOWN);
    Due.is("told(10)", x.told(10), 0);
    Due.is("first(-1)", x.first(-1), 62);
    Due.is("note(0, 30, true)", x.note(0, 30, true), 1);
    Due.is("note(1, 0, false)", x.note(1, 0, false), 2);
    Due.is("told(10)", x.told(10), 2);
  }

  private static void notesUpTo10() {
    ChalkedDoors x = Due.street("s2;");
    for (int k = 1; k <= 10; k++) {
      Due.is("note(0, 30, true), the " + k, x.note(0, 30, true), k);
    }
    int fitting = x.first(-1);
    Due.is("note(0, 0, false) at 10", x.note(0, 0, false), Due.FULL);
    Due.is("note(0, 31, false) at 10", x.note(0, 31, false), Due.OUTSIDE);
    Due.is("note(2, 31, false) at 10", x.note(2, 31, false), Due.UNKNOWN);
    Due.is("told(10)", x.told(10), 10);
    Due.is("first(-1): nothing was noted", x.first(-1), fitting);
    Due.is("tear()", x.tear(), 10);
    Due.is("note(0, 0, true) behind tear", x.note(0, 0, true), 1);
    Due.is("first(-1)", x.first(-1), 1);
  }

  private static void noteTwiceAndAgainst() {
    ChalkedDoors x = Due.street("s3;");
    x.note(1, 4, true);
    int fitting = x.first(-1);
    Due.is("note(1, 4, true), twice", x.note(1, 4, true), 2);
    Due.is("first(-1), twice", x.first(-1), fitting);
    Due.is("note(1, 4, false), against", x.note(1, 4, false), 3);
    Due.is("first(-1), against", x.first(-1), 0);
    Due.is("first(-2), against", x.first(-2), 0);
    Due.is("first(0), against", x.first(0), Due.NONE);
  }

  private static void fashionBehindItsFirstNight() {
    // behind night 0 a door is chalked only if it is the first, in night 0
    ChalkedDoors x = Due.street("s14;");
    x.note(13, 0, true);
    Due.is("first(-1)", x.first(-1), 1);
    Due.is("first(0)", x.first(0), 13);
    Due.is("first(-2)", x.first(-2), 1 << 13);
    ChalkedDoors y = Due.street("s14;");
    y.note(13, 0, false);
    Due.is("first(-1), all but that", y.first(-1), 433);
    Due.is("first(12)", y.first(12), 12);
    Due.is("first(13)", y.first(13), 100);
    Due.is("first(-2)", y.first(-2), 16383);
    // chalked behind night 7, not behind night 6, at the door itself or one from beside, and so on
    ChalkedDoors z = Due.street("s14;");
    z.note(0, 7, true);
    z.note(0, 6, false);
    Due.is("first(-1), in night 7 or on the way", z.first(-1), 8);
    for (int i = 0; i < 8; i++) {
      Due.is("first(" + i + ")", z.first(i), 100 * i + 7 - i);
    }
    Due.is("first(-2)", z.first(-2), 255);
  }

  private static void fashionOneDoorANight() {
    ChalkedDoors x = Due.street("s14;");
    x.note(0, 0, true);
    Due.is("first(0)", x.first(0), 0);
    // it is at the door 13 behind night 13, and not a night sooner
    x.note(13, 13, true);
    Due.is("first(-1), 13 nights for 13 doors", x.first(-1), 1);
    x.note(13, 12, false);
    Due.is("first(-1), not in 12", x.first(-1), 1);
    x.note(12, 12, true);
    Due.is("first(-1), the door ahead of it", x.first(-1), 1);
    x.note(13, 12, true);
    Due.is("first(-1), in 12", x.first(-1), 0);
  }

  private static void firstInTheLastNight() {
    ChalkedDoors x = Due.street("s14;");
    x.note(0, 30, true);
    x.note(0, 29, false);
    // 30 less the way: the door d in night 30 less d
    Due.is("first(-1)", x.first(-1), 14);
    Due.is("first(0)", x.first(0), 1713);
    Due.is("first(13)", x.first(13), 3000);
    ChalkedDoors y = Due.street("s14;");
    y.note(13, 30, false);
    // those that come too late: the door d in nights above 17 and d
    int fitting = 0;
    for (int d = 0; d < 14; d++) {
      fitting += 30 - (17 + d);
    }
    Due.is("first(-1), not by night 30", y.first(-1), fitting);
    Due.is("first(-2), not by night 30", y.first(-2), 8191);
    Due.is("first(0), not by night 30", y.first(0), 1800);
    Due.is("first(last), not by night 30", y.first(fitting - 1), 3012);
  }

  private static void firstBehindTheLastOne() {
    ChalkedDoors x = Due.street("s14;");
    Due.is("first(-1)", x.first(-1), 434);
    Due.is("first(-2)", x.first(-2), 16383);
    Due.is("first(0)", x.first(0), 0);
    Due.is("first(433)", x.first(433), 3013);
    Due.is("first(434)", x.first(434), Due.NONE);
    Due.is("first(MAX)", x.first(Integer.MAX_VALUE), Due.NONE);
    Due.is("first(-3)", x.first(-3), Due.NONE);
    Due.is("first(MIN)", x.first(Integer.MIN_VALUE), Due.NONE);
    ChalkedDoors none = new ChalkedDoors();
    Due.is("first(-1) without doors", none.first(-1), 0);
    Due.is("first(-2) without doors", none.first(-2), 0);
    Due.is("first(0) without doors", none.first(0), Due.NONE);
  }

  private static void firstNightByNight() {
    ChalkedDoors x = Due.street("s14;");
    for (int i = 0; i < 434; i += 7) {
      Due.is("first(" + i + ")", x.first(i), 100 * (i / 14) + i % 14);
    }
    Due.is("first(13), the last of night 0", x.first(13), 13);
    Due.is("first(14), the first of night 1", x.first(14), 100);
  }

  private static void firstOfOneDoor() {
    ChalkedDoors x = Due.street("s1;");
    Due.is("first(-1)", x.first(-1), 31);
    Due.is("first(30)", x.first(30), 3000);
    Due.is("first(31)", x.first(31), Due.NONE);
    x.note(0, 29, false);
    Due.is("first(-1), not behind night 29", x.first(-1), 1);
    Due.is("first(0), not behind night 29", x.first(0), 3000);
    x.note(0, 30, false);
    Due.is("first(-1), not behind night 30", x.first(-1), 0);
  }
}
