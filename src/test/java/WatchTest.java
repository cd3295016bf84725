/** Promises 20 to 22: watchman, unseen, sight; each against a walk minute by minute. */
public final class WatchTest {
  public static void main(String[] args) {
    known();
    for (int doors = 1; doors <= 14; doors++) {
      for (int stay = 1; stay <= 9; stay += 4) {
        walk(doors, stay, (doors * 5 + stay) % 14);
      }
    }
    refusals();
    Due.end();
  }

  private static void known() {
    ChalkedDoors x = Due.street(Due.USUAL);
    int[] doors = {0, 0, 1, 1, 2, 2, 3, 3, 4, 4, 5, 5, 4, 4, 3, 3, 2, 2, 1, 1, 0, 0, 1, 1};
    for (int minute = 0; minute < doors.length; minute++) {
      Due.is("watchman(" + minute + ")", x.watchman(minute), doors[minute]);
    }
    int[] unseen = {14, 10, 6, 6, 10, 14};
    for (int d = 0; d < 6; d++) {
      Due.is("unseen(" + d + ")", x.unseen(d), unseen[d]);
    }
    Due.is("sight(1)", x.sight(1), 5);
    Due.is("sight(2)", x.sight(2), 5);
    Due.is("sight(3)", x.sight(3), 4);
    Due.is("sight(6)", x.sight(6), 4);
    Due.is("sight(7)", x.sight(7), 3);
    Due.is("sight(18)", x.sight(18), 1);
    Due.is("sight(19)", x.sight(19), 0);
  }

  /** Three rounds and more, a minute at a time. */
  private static int[] doorsByMinute(int doors, int stay) {
    int[] at = new int[stay * doors * 8];
    int door = 0;
    int step = 1;
    for (int minute = 0; minute < at.length; minute++) {
      if (minute > 0 && minute % stay == 0 && doors > 1) {
        if (door + step < 0 || door + step >= doors) {
          step = -step;
        }
        door += step;
      }
      at[minute] = door;
    }
    return at;
  }

  private static int longestUnseen(int[] at, int d, int reach) {
    int longest = 0;
    int run = 0;
    for (int door : at) {
      run = door >= d - reach && door <= d + reach ? 0 : run + 1;
      longest = Math.max(longest, run);
    }
    return longest;
  }

  private static void walk(int doors, int stay, int reach) {
    String told = "s" + doors + ";w" + stay + " " + reach + ";";
    ChalkedDoors x = Due.street(told);
    int[] at = doorsByMinute(doors, stay);
    for (int minute = 0; minute < Math.min(200, at.length); minute++) {
      Due.is("watchman(" + minute + ") of \"" + told + "\"", x.watchman(minute), at[minute]);
    }
    for (int d = 0; d < doors; d++) {
      Due.is("unseen(" + d + ") of \"" + told + "\"", x.unseen(d), longestUnseen(at, d, reach));
    }
    for (int m = 1; m <= 99; m += 7) {
      Due.is("sight(" + m + ") of \"" + told + "\"", x.sight(m), leastSight(at, doors, m));
    }
  }

  private static int leastSight(int[] at, int doors, int m) {
    for (int reach = 0; reach <= 13; reach++) {
      int longest = 0;
      for (int d = 0; d < doors; d++) {
        longest = Math.max(longest, longestUnseen(at, d, reach));
      }
      if (longest < m) {
        return reach;
      }
    }
    return Due.NONE;
  }

  private static void refusals() {
    ChalkedDoors x = Due.street(Due.USUAL);
    Due.is("watchman(-1)", x.watchman(-1), Due.OUTSIDE);
    Due.is("watchman(100000)", x.watchman(100000), Due.OUTSIDE);
    Due.is("watchman(99999)", x.watchman(99999), 1);
    Due.is("unseen(6)", x.unseen(6), Due.UNKNOWN);
    Due.is("unseen(-1)", x.unseen(-1), Due.UNKNOWN);
    Due.is("sight(0)", x.sight(0), Due.OUTSIDE);
    Due.is("sight(100)", x.sight(100), Due.OUTSIDE);
    ChalkedDoors alone = Due.street("s3;");
    Due.is("watchman(5) without him", alone.watchman(5), Due.NONE);
    Due.is("watchman(-1) without him", alone.watchman(-1), Due.OUTSIDE);
    Due.is("unseen(2) without him", alone.unseen(2), Due.NONE);
    Due.is("unseen(3) without him", alone.unseen(3), Due.UNKNOWN);
    Due.is("sight(5) without him", alone.sight(5), Due.NONE);
    Due.is("sight(0) without him", alone.sight(0), Due.OUTSIDE);
  }
}
