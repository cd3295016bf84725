import java.util.ArrayList;
import java.util.List;

/**
 * The refusals of all calls: the last number that is taken and the first that is refused on either side, of several
 * refusals the first in the document's order, and that nothing is changed by what is refused, nor by what is only tried.
 * Every call is made with all choices of edges, in a new object, a common street and one in which all is full.
 */
public final class RefusalTest {
  private static final int TAKEN = 0;

  private enum State {
    NEW(0, 0), COMMON(6, 3), ALL_FULL(14, 4);

    final int doors;
    final int chalks;

    State(int doors, int chalks) {
      this.doors = doors;
      this.chalks = chalks;
    }

    ChalkedDoors make() {
      return this == NEW ? new ChalkedDoors() : this == COMMON ? common() : allFull();
    }
  }

  /** A number that a call is given: it is refused by that refusal if it is out of these bounds. */
  private record Part(int refusal, int least, int most) {
    boolean takes(int number) {
      return number >= least && number <= most;
    }

    /** Two behind the last, since in a set that is a strange bit beside a known one. */
    int[] edges() {
      int behind = Math.min(most, Integer.MAX_VALUE - 2);
      return new int[] {Integer.MIN_VALUE, least - 1, least, most, behind + 1, behind + 2, Integer.MAX_VALUE};
    }
  }

  private interface Call {
    int on(ChalkedDoors x, int[] numbers);
  }

  /** What refuses a call whose numbers are all taken: NOT, FULL, or TAKEN. */
  private interface Later {
    int refusal(State s, int[] numbers);
  }

  private record Told(String name, Call call, boolean isTried, Later later, Part... parts) {
  }

  public static void main(String[] args) {
    for (State s : State.values()) {
      Due.is("doors in the state " + s, s.make().told(0), s.doors);
      for (Told t : street(s)) {
        choose(s, t, new int[t.parts.length], 0);
      }
      for (Told t : done(s)) {
        choose(s, t, new int[t.parts.length], 0);
      }
      for (Told t : thieves(s)) {
        choose(s, t, new int[t.parts.length], 0);
      }
      for (Told t : watchmenAndGangs(s)) {
        choose(s, t, new int[t.parts.length], 0);
      }
      for (Told t : booksAndImages(s)) {
        choose(s, t, new int[t.parts.length], 0);
      }
    }
    Due.end();
  }

  /** Letters wait in the text, the latest street had a fault, all is in use, image 1 is not kept. */
  private static ChalkedDoors common() {
    ChalkedDoors x = Due.street(Due.USUAL);
    Due.feed(x, "s2;x");
    x.street();
    x.seed(11);
    x.mark(3, 2);
    x.hide(3, 1, true);
    x.keep(0);
    x.night(2);
    x.hide(5, 0, true);
    x.copy(4, 1);
    x.note(2, 9, true);
    x.write(4, x.door(4, 0));
    Due.feed(x, "s3;");
    return x;
  }

  /** 14 doors, 4 chalks, 200 letters without a fault, 10 noted, 15 entries, both images kept. */
  private static ChalkedDoors allFull() {
    ChalkedDoors x = Due.street("s14;c0 8 20 7;c0 0 1 0;c1 1 0 7;c2 8 20 1;m7 15;r8;w9 0;");
    x.seed(Integer.MAX_VALUE);
    x.hide(13, 3, true);
    x.keep(0);
    x.copy(7, 6);
    x.hide(0, 0, true);
    x.keep(1);
    x.mark(0, 3);
    Due.feed(x, "s1;" + " ".repeat(197));
    for (int k = 0; k < 10; k++) {
      x.note(k, 30, true);
    }
    for (int k = 0; k < 15; k++) {
      x.write(13, 15);
    }
    return x;
  }

  private static void choose(State s, Told t, int[] numbers, int at) {
    if (at == numbers.length) {
      check(s, t, numbers.clone());
      return;
    }
    for (int number : t.parts[at].edges()) {
      numbers[at] = number;
      choose(s, t, numbers, at + 1);
    }
  }

  private static void check(State s, Told t, int[] numbers) {
    StringBuilder name = new StringBuilder(t.name).append('(');
    for (int k = 0; k < numbers.length; k++) {
      name.append(k > 0 ? ", " : "").append(numbers[k]);
    }
    name.append(") in the state ").append(s);
    int want = refusal(s, t, numbers);
    ChalkedDoors x = s.make();
    int got = t.call.on(x, numbers);
    if (want == TAKEN) {
      Due.is(name + ": is it refused?", got < Due.NONE ? got : TAKEN, TAKEN);
    } else {
      Due.is(name.toString(), got, want);
    }
    if ((want != TAKEN || t.isTried) && !Sight.of(x).equals(Sight.of(s.make()))) {
      Due.fail(name + " has changed something");
    }
  }

  private static int refusal(State s, Told t, int[] numbers) {
    for (int refusal : new int[] {Due.UNKNOWN, Due.OUTSIDE}) {
      for (int k = 0; k < numbers.length; k++) {
        if (t.parts[k].refusal == refusal && !t.parts[k].takes(numbers[k])) {
          return refusal;
        }
      }
    }
    return t.later.refusal(s, numbers);
  }

  private static Part door(State s) {
    return new Part(Due.UNKNOWN, 0, s.doors - 1);
  }

  private static Part chalk(State s) {
    return new Part(Due.UNKNOWN, 0, s.chalks - 1);
  }

  private static Part setOfChalks(State s) {
    return new Part(Due.UNKNOWN, 0, (1 << s.chalks) - 1);
  }

  private static Part setOfDoors(State s) {
    return new Part(Due.UNKNOWN, 0, (1 << s.doors) - 1);
  }

  private static Part image() {
    return new Part(Due.UNKNOWN, 0, 1);
  }

  private static Part number(int least, int most) {
    return new Part(Due.OUTSIDE, least, most);
  }

  private static int never(State s, int[] n) {
    return TAKEN;
  }

  private static int fullIfAllIs(State s, int[] n) {
    return s == State.ALL_FULL ? Due.FULL : TAKEN;
  }

  private static boolean isThere(State s, int[] n) {
    return (s.make().door(n[0], 0) >> n[1] & 1) != 0;
  }

  private static List<Told> street(State s) {
    List<Told> all = new ArrayList<>();
    all.add(new Told("feed", (x, n) -> x.feed(n[0]), false, RefusalTest::fullIfAllIs, number(0, 255)));
    all.add(new Told("fault", (x, n) -> x.fault(), true, RefusalTest::never));
    all.add(new Told("told", (x, n) -> x.told(n[0]), true, RefusalTest::never, number(0, 11)));
    all.add(new Told("chalk", (x, n) -> x.chalk(n[0], n[1]), true, RefusalTest::never, chalk(s), number(0, 4)));
    all.add(new Told("door", (x, n) -> x.door(n[0], n[1]), true, RefusalTest::never, door(s), number(0, 1)));
    return all;
  }

  private static List<Told> done(State s) {
    List<Told> all = new ArrayList<>();
    all.add(new Told("mark", (x, n) -> x.mark(n[0], n[1]), false,
      (t, n) -> isThere(t, n) ? Due.NOT : TAKEN, door(s), chalk(s)));
    all.add(new Told("wipe", (x, n) -> x.wipe(n[0], n[1]), false,
      (t, n) -> isThere(t, n) ? TAKEN : Due.NOT, door(s), chalk(s)));
    for (boolean is : new boolean[] {false, true}) {
      all.add(new Told("hide " + is, (x, n) -> x.hide(n[0], n[1], is), false, RefusalTest::never, door(s), chalk(s)));
    }
    all.add(new Told("copy", (x, n) -> x.copy(n[0], n[1]), false, RefusalTest::never, door(s), number(1, 13)));
    all.add(new Told("night", (x, n) -> x.night(n[0]), false,
      (t, n) -> t == State.NEW ? Due.NOT : TAKEN, number(1, 99)));
    return all;
  }

  private static List<Told> thieves(State s) {
    List<Told> all = new ArrayList<>();
    all.add(new Told("like", (x, n) -> x.like(n[0]), true, RefusalTest::never, setOfChalks(s)));
    all.add(new Told("fool", (x, n) -> x.fool(n[0], n[1], n[2]), true, RefusalTest::never,
      setOfChalks(s), number(2, 14), number(0, 1)));
    all.add(new Told("code", (x, n) -> x.code(n[0], n[1]), true, RefusalTest::never,
      number(0, 2), new Part(Due.UNKNOWN, Due.NONE, s.doors - 1)));
    all.add(new Told("windows", (x, n) -> x.windows(n[0]), true, RefusalTest::never, number(1, s.doors)));
    all.add(new Told("leastWindow", (x, n) -> x.leastWindow(), true, RefusalTest::never));
    all.add(new Told("belief", (x, n) -> x.belief(n[0], n[1], n[2]), true, RefusalTest::never,
      setOfChalks(s), number(1, 9), door(s)));
    all.add(new Told("bestDoor", (x, n) -> x.bestDoor(n[0], n[1]), true, RefusalTest::never,
      setOfChalks(s), number(1, 9)));
    return all;
  }

  private static List<Told> watchmenAndGangs(State s) {
    List<Told> all = new ArrayList<>();
    all.add(new Told("watchman", (x, n) -> x.watchman(n[0]), true, RefusalTest::never, number(0, 99999)));
    all.add(new Told("unseen", (x, n) -> x.unseen(n[0]), true, RefusalTest::never, door(s)));
    all.add(new Told("sight", (x, n) -> x.sight(n[0]), true, RefusalTest::never, number(1, 99)));
    all.add(new Told("forged", (x, n) -> x.forged(n[0], n[1]), true, RefusalTest::never, number(0, 15), number(0, 15)));
    all.add(new Told("keys", (x, n) -> x.keys(n[0], n[1]), true, RefusalTest::never, setOfDoors(s), number(0, 1)));
    for (boolean is : new boolean[] {false, true}) {
      all.add(new Told("note " + is, (x, n) -> x.note(n[0], n[1], is), false, RefusalTest::fullIfAllIs,
        door(s), number(0, 30)));
    }
    all.add(new Told("first", (x, n) -> x.first(n[0]), true, RefusalTest::never, number(Integer.MIN_VALUE, Integer.MAX_VALUE)));
    return all;
  }

  private static List<Told> booksAndImages(State s) {
    List<Told> all = new ArrayList<>();
    all.add(new Told("write", (x, n) -> x.write(n[0], n[1]), false, RefusalTest::fullIfAllIs, door(s), number(0, 15)));
    all.add(new Told("judge", (x, n) -> x.judge(), true, RefusalTest::never));
    all.add(new Told("seed", (x, n) -> x.seed(n[0]), false, RefusalTest::never, number(0, Integer.MAX_VALUE)));
    all.add(new Told("keep", (x, n) -> x.keep(n[0]), false, RefusalTest::never, image()));
    all.add(new Told("goBack", (x, n) -> x.goBack(n[0]), false,
      (t, n) -> t == State.NEW || t == State.COMMON && n[0] == 1 ? Due.NOT : TAKEN, image()));
    return all;
  }
}
