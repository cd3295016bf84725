/** The edges of the watchman's walk (promises 20 to 22): one door, both ends, the last minute, all seen, just as long unseen. */
public final class WatchEdgeTest {
  public static void main(String[] args) {
    atDoor0AtMinute0();
    minutesFrom0To99999();
    staysAtEachDoor();
    turnsAtBothEnds();
    oneDoor();
    twoDoors();
    withoutHim();
    seenAsFarAsHeSees();
    unseenGoesOverTheEndOfARound();
    unseenAtMost();
    sightFrom1To99();
    sightIsBelowSoManyMinutes();
    sightIsOfAllDoorsNotOfHisOwn();
    Due.end();
  }

  private static void atDoor0AtMinute0() {
    for (int doors = 1; doors <= 14; doors++) {
      Due.is("watchman(0) of " + doors, Due.street("s" + doors + ";w1 0;").watchman(0), 0);
    }
  }

  private static void minutesFrom0To99999() {
    ChalkedDoors x = Due.street("s14;w1 0;");
    Due.is("watchman(-1)", x.watchman(-1), Due.OUTSIDE);
    // a round has 26 minutes; 99999 is 26 times 3846 and 3
    Due.is("watchman(99999)", x.watchman(99999), 3);
    Due.is("watchman(99996)", x.watchman(99996), 0);
    Due.is("watchman(99995)", x.watchman(99995), 1);
    Due.is("watchman(100000)", x.watchman(100000), Due.OUTSIDE);
    // 99999 / 9 is 11111, and that is 26 times 427 and 9
    Due.is("watchman(99999), nine minutes each", Due.street("s14;w9 0;").watchman(99999), 9);
    Due.is("watchman(99998), nine minutes each", Due.street("s14;w9 0;").watchman(99998), 8);
  }

  private static void staysAtEachDoor() {
    for (int stay = 1; stay <= 9; stay++) {
      ChalkedDoors x = Due.street("s3;w" + stay + " 0;");
      int[] doors = {0, 1, 2, 1, 0, 1, 2, 1, 0};
      for (int k = 0; k < doors.length; k++) {
        Due.is("watchman(" + k * stay + "), the first minute of " + stay, x.watchman(k * stay), doors[k]);
        Due.is("watchman(" + (k * stay + stay - 1) + "), the last of " + stay, x.watchman(k * stay + stay - 1), doors[k]);
      }
    }
  }

  private static void turnsAtBothEnds() {
    for (int doors = 2; doors <= 14; doors++) {
      ChalkedDoors x = Due.street("s" + doors + ";w1 0;");
      int last = doors - 1;
      Due.is("the last but one of " + doors, x.watchman(last - 1), last - 1);
      Due.is("the last of " + doors, x.watchman(last), last);
      Due.is("turned at the last of " + doors, x.watchman(last + 1), last - 1);
      Due.is("the first again of " + doors, x.watchman(2 * last), 0);
      Due.is("ahead of the first again of " + doors, x.watchman(2 * last - 1), 1);
      Due.is("turned at the first of " + doors, x.watchman(2 * last + 1), 1);
      Due.is("the last again of " + doors, x.watchman(3 * last), last);
    }
  }

  private static void oneDoor() {
    ChalkedDoors x = Due.street("s1;w9 0;");
    int[] minutes = {0, 1, 8, 9, 10, 17, 18, 99999};
    for (int minute : minutes) {
      Due.is("watchman(" + minute + ") of one door", x.watchman(minute), 0);
    }
    Due.is("unseen(0) of one door", x.unseen(0), 0);
    Due.is("unseen(1) of one door", x.unseen(1), Due.UNKNOWN);
    Due.is("sight(1) of one door", x.sight(1), 0);
    Due.is("sight(99) of one door", x.sight(99), 0);
  }

  private static void twoDoors() {
    ChalkedDoors x = Due.street("s2;w3 0;");
    int[] doors = {0, 0, 0, 1, 1, 1, 0, 0, 0, 1, 1, 1, 0};
    for (int minute = 0; minute < doors.length; minute++) {
      Due.is("watchman(" + minute + ") of two", x.watchman(minute), doors[minute]);
    }
    Due.is("unseen(0) of two", x.unseen(0), 3);
    Due.is("unseen(1) of two", x.unseen(1), 3);
    Due.is("sight(3) of two", x.sight(3), 1);
    Due.is("sight(4) of two", x.sight(4), 0);
  }

  private static void withoutHim() {
    ChalkedDoors x = Due.street("s14;");
    Due.is("watchman(0)", x.watchman(0), Due.NONE);
    Due.is("watchman(99999)", x.watchman(99999), Due.NONE);
    Due.is("watchman(100000)", x.watchman(100000), Due.OUTSIDE);
    Due.is("unseen(0)", x.unseen(0), Due.NONE);
    Due.is("unseen(13)", x.unseen(13), Due.NONE);
    Due.is("unseen(14)", x.unseen(14), Due.UNKNOWN);
    Due.is("sight(1)", x.sight(1), Due.NONE);
    Due.is("sight(99)", x.sight(99), Due.NONE);
    Due.is("sight(100)", x.sight(100), Due.OUTSIDE);
    ChalkedDoors gone = Due.street("s14;w1 13;");
    Due.is("unseen(0) with him", gone.unseen(0), 0);
    Due.feed(gone, "s14;");
    gone.street();
    Due.is("unseen(0) in the next street", gone.unseen(0), Due.NONE);
  }

  private static void seenAsFarAsHeSees() {
    for (int doors = 1; doors <= 14; doors++) {
      for (int reach = 0; reach <= 13; reach++) {
        ChalkedDoors x = Due.street("s" + doors + ";w4 " + reach + ";");
        // at an end he is out of its sight from reach + 1 on to the other end and back again
        int stops = Math.max(0, 2 * (doors - 1 - reach) - 1);
        Due.is("unseen(0), " + doors + " doors, R " + reach, x.unseen(0), 4 * stops);
        Due.is("unseen(last), " + doors + " doors, R " + reach, x.unseen(doors - 1), 4 * stops);
      }
    }
  }

  /** For doors in the middle the walk to the nearer end and back, or to the further one, whichever is longer. */
  private static void unseenGoesOverTheEndOfARound() {
    ChalkedDoors x = Due.street("s9;w1 0;");
    int[] want = {15, 13, 11, 9, 7, 9, 11, 13, 15};
    for (int d = 0; d < 9; d++) {
      Due.is("unseen(" + d + "), R 0", x.unseen(d), want[d]);
    }
    ChalkedDoors y = Due.street("s9;w1 4;");
    int[] wantOf4 = {7, 5, 3, 1, 0, 1, 3, 5, 7};
    for (int d = 0; d < 9; d++) {
      Due.is("unseen(" + d + "), R 4", y.unseen(d), wantOf4[d]);
    }
  }

  private static void unseenAtMost() {
    ChalkedDoors x = Due.street("s14;w9 0;");
    Due.is("unseen(0)", x.unseen(0), 225);
    Due.is("unseen(13)", x.unseen(13), 225);
    Due.is("unseen(6)", x.unseen(6), 117);
    ChalkedDoors all = Due.street("s14;w9 13;");
    ChalkedDoors nearly = Due.street("s14;w9 12;");
    for (int d = 0; d < 14; d++) {
      Due.is("unseen(" + d + "), R 13", all.unseen(d), 0);
      Due.is("unseen(" + d + "), R 12", nearly.unseen(d), d == 0 || d == 13 ? 9 : 0);
    }
  }

  private static void sightFrom1To99() {
    ChalkedDoors x = Due.street("s14;w9 0;");
    Due.is("sight(0)", x.sight(0), Due.OUTSIDE);
    Due.is("sight(1)", x.sight(1), 13);
    Due.is("sight(99)", x.sight(99), 8);
    Due.is("sight(100)", x.sight(100), Due.OUTSIDE);
    Due.is("sight(-1)", x.sight(-1), Due.OUTSIDE);
  }

  /** The ends are unseen for L times an odd number: so many minutes on end are too many, one more is not. */
  private static void sightIsBelowSoManyMinutes() {
    for (int doors = 1; doors <= 14; doors++) {
      for (int stay = 1; stay <= 9; stay++) {
        ChalkedDoors x = Due.street("s" + doors + ";w" + stay + " 0;");
        for (int reach = 0; reach < doors - 1; reach++) {
          int unseen = stay * (2 * (doors - 1 - reach) - 1);
          if (unseen <= 99) {
            Due.is("sight(" + unseen + "), " + doors + " doors, L " + stay, x.sight(unseen), reach + 1);
          }
          if (unseen < 99) {
            Due.is("sight(" + (unseen + 1) + "), " + doors + " doors, L " + stay, x.sight(unseen + 1), reach);
          }
        }
      }
    }
  }

  private static void sightIsOfAllDoorsNotOfHisOwn() {
    for (int reach = 0; reach <= 13; reach++) {
      ChalkedDoors x = Due.street("s6;w2 " + reach + ";");
      Due.is("sight(1), R " + reach, x.sight(1), 5);
      Due.is("sight(7), R " + reach, x.sight(7), 3);
      Due.is("told(4), R " + reach, x.told(4), reach);
    }
  }
}
